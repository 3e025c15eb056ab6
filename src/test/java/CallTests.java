import java.io.PrintWriter;
import java.io.StringWriter;
import java.util.ArrayList;
import java.util.Collections;
import java.util.List;
import java.util.Map;
import java.util.Set;
import java.util.TreeMap;
import java.util.TreeSet;
import java.util.regex.Matcher;
import java.util.regex.Pattern;
import java.util.spi.ToolProvider;

/** Rules 4, 8 and 11 of shared/LANGUAGE.md, looked at in the compiled class: who calls whom. */
final class CallTests {
    private static final int DEEPEST = 8;

    /** Of what rule 4 lists, that which the class needs. */
    private static final Set<String> LIBRARY = Set.of("java.lang.Object.<init>", "java.lang.IllegalArgumentException.<init>",
        "java.lang.IllegalStateException.<init>", "java.lang.IndexOutOfBoundsException.<init>", "java.lang.String.charAt",
        "java.lang.String.indexOf", "java.lang.String.length", "java.lang.StringBuilder.<init>",
        "java.lang.StringBuilder.append", "java.lang.StringBuilder.charAt", "java.lang.StringBuilder.length",
        "java.lang.StringBuilder.setCharAt", "java.lang.StringBuilder.setLength", "java.lang.StringBuilder.toString",
        "java.lang.Long.bitCount", "java.lang.Math.abs", "java.lang.Math.floorMod", "java.lang.Math.max",
        "java.lang.Math.min", "java.util.Arrays.fill");

    private static final Pattern CLASS = Pattern.compile("^(?:\\w+ )*class (\\S+) .*\\{$");
    private static final Pattern HEAD = Pattern.compile("^  (?:\\S+ )*([\\w$]+)\\([^()]*\\)(?: throws .*)?;$");
    private static final Pattern CALL =
        Pattern.compile("^ +\\d+: invoke.*// (?:Interface)?Method (?:([\\w/$]+)\\.)?\"?([\\w<>]+)\"?:.*$");

    private final Map<String, Set<String>> calls = new TreeMap<>();
    private final Map<String, List<String>> chains = new TreeMap<>();
    private final Set<String> open = new TreeSet<>();

    private CallTests() { }

    static void run() {
        CallTests all = new CallTests();
        all.read();
        Check.is("javap tells who calls whom", all.calls.size() > 100, true);
        all.library();
        all.depth();
    }

    private void read() {
        List<String> what = new ArrayList<>(List.of("-c", "-p", "-cp", System.getProperty("java.class.path"), "Newsfold"));
        for (Class<?> c : Newsfold.class.getDeclaredClasses()) {
            what.add(c.getName());
        }
        StringWriter told = new StringWriter();
        PrintWriter to = new PrintWriter(told);
        ToolProvider.findFirst("javap").orElseThrow().run(to, to, what.toArray(new String[0]));
        String of = "";
        String from = "";
        for (String line : told.toString().split("\\R")) {
            Matcher type = CLASS.matcher(line);
            Matcher head = HEAD.matcher(line);
            Matcher call = CALL.matcher(line);
            if (type.matches()) {
                of = type.group(1);
            } else if (head.matches()) {
                from = of + "." + (head.group(1).equals(of) ? "<init>" : head.group(1));
                calls.computeIfAbsent(from, k -> new TreeSet<>());
            } else if (call.matches()) {
                String callee = call.group(1) == null ? of : call.group(1).replace('/', '.');
                calls.get(from).add(callee + "." + call.group(2));
            }
        }
    }

    private void library() {
        Set<String> others = new TreeSet<>();
        for (Set<String> some : calls.values()) {
            others.addAll(some);
        }
        others.removeAll(calls.keySet());
        others.removeAll(LIBRARY);
        Check.is("rule 4: calls of the library that are not listed here", others, "[]");
    }

    private void depth() {
        for (String call : calls.keySet()) {
            List<String> chain = longest(call);
            Check.is("rule 11: how deep calls go: " + chain, chain.size() <= DEEPEST, true);
        }
    }

    /** The longest chain of calls from that one on, with the library's at its end. */
    private List<String> longest(String call) {
        Check.is("rule 8: no recursion, " + call + " behind " + open, open.contains(call), false);
        if (open.contains(call)) {
            return List.of();
        }
        if (chains.containsKey(call)) {
            return chains.get(call);
        }
        open.add(call);
        List<String> best = List.of();
        for (String next : calls.getOrDefault(call, Collections.emptySet())) {
            List<String> chain = longest(next);
            best = chain.size() > best.size() ? chain : best;
        }
        open.remove(call);
        List<String> whole = new ArrayList<>(List.of(call));
        whole.addAll(best);
        chains.put(call, whole);
        return whole;
    }
}
