import java.io.IOException;
import java.lang.reflect.Field;
import java.lang.reflect.Method;
import java.lang.reflect.Modifier;
import java.nio.file.Files;
import java.nio.file.Path;
import java.util.HashSet;
import java.util.List;
import java.util.Set;
import java.util.TreeSet;
import java.util.regex.Matcher;
import java.util.regex.Pattern;

/** Looks at what of shared/LANGUAGE.md can be seen without reading: the rules' numbers stand in the names. */
final class LanguageTests {
    private static final String[] BANNED = {"->", "::", "\\btry\\b", "\\bcatch\\b", "\\bfinally\\b", "\\bsynchronized\\b",
        "\\bassert\\b", "\\binstanceof\\b", "\\bString\\.valueOf\\b", "\\w+Exact\\b", "MAX_VALUE", "MIN_VALUE", "\\bfloat\\b",
        "\\bObject\\b", "\\bSystem\\.(?!arraycopy)", "\\bnew StringBuilder\\([^)]", "\\.insert\\(0, \"", "\\bstatic \\{",
        "\\bequals\\(Object", "\\bhashCode\\b", "\\bString toString\\b", "\" \\+", "\\+ \"", "\\bpackage\\b"};
    private static final Set<String> FACE = Set.of("say", "typed", "feed", "bring", "out", "put", "write", "poke", "page",
        "fetch", "tick", "ofFeed", "fetched", "ofItem", "text", "find", "story", "apart", "common", "rule", "unrule", "reasons",
        "list", "ask", "unask", "search", "hours", "mark", "open", "upTo", "undo", "marked", "send", "arrive", "lose",
        "ofLetter", "known", "unlike", "ofDesk", "zone", "bar", "morning", "forget", "would", "shown", "knock", "house",
        "isSound", "digest");

    private LanguageTests() { }

    static void run(Path source, Path document) throws IOException {
        banned(Files.readAllLines(source));
        methodLengths(Files.readAllLines(source));
        face();
        signatures(Files.readString(source), document);
        classes();
    }

    /** Each line of the document's face stands in the class as it is told. */
    private static void signatures(String source, Path document) throws IOException {
        if (!Files.exists(document)) {
            return;
        }
        int told = 0;
        for (String line : Files.readAllLines(document)) {
            if (line.startsWith("    public ") && line.endsWith(";")) {
                String head = line.substring(0, line.length() - 1);
                Check.is("rule 1:" + head, source.contains("\n" + head + " {\n"), true);
                told++;
            }
        }
        Check.is("rule 1: the constructor and the methods that DOC.md tells", told, FACE.size() + 1);
    }

    private static void banned(List<String> lines) {
        for (String ban : BANNED) {
            Pattern p = Pattern.compile(ban);
            String found = "";
            for (String line : lines) {
                String code = line.strip();
                if (!code.startsWith("*") && !code.startsWith("/") && p.matcher(code).find()) {
                    found = code;
                }
            }
            Check.is("rules 3 to 6, 10: " + ban, found, "");
        }
        int imports = 0;
        for (String line : lines) {
            imports += line.startsWith("import ") && !line.matches("import java\\.util\\.(Arrays|ArrayList|List);") ? 1 : 0;
            for (char c : line.toCharArray()) {
                imports += c > 126 ? 1 : 0;
            }
        }
        Check.is("rule 4: other imports and signs", imports, 0);
    }

    private static void methodLengths(List<String> lines) {
        Pattern head = Pattern.compile("^( +)[\\w<>\\[\\] ]*\\w+\\((.*)\\)( throws [\\w, ]+)? \\{$");
        for (int i = 0; i < lines.size(); i++) {
            Matcher m = head.matcher(lines.get(i));
            if (m.matches() && !lines.get(i).matches(" +(if|for|while|switch|\\} else).*")) {
                int end = i;
                while (end < lines.size() && !lines.get(end).equals(m.group(1) + "}")) {
                    end++;
                }
                Check.is("rule 11: lines of " + lines.get(i).strip(), end - i <= 60, true);
                Check.is("rule 11: parameters of " + lines.get(i).strip(), m.group(2).split(",").length <= 7, true);
            }
        }
    }

    private static void face() {
        Set<String> open = new TreeSet<>();
        for (Method m : Newsfold.class.getDeclaredMethods()) {
            if (!Modifier.isPrivate(m.getModifiers())) {
                open.add(m.getName());
            } else {
                Check.is("rule 1: private " + m.getName(), FACE.contains(m.getName()), false);
            }
        }
        Check.is("rule 1: the face", open, new TreeSet<>(FACE));
        Check.is("rule 1: public and final", Newsfold.class.getModifiers(), Modifier.PUBLIC | Modifier.FINAL);
        for (Field f : Newsfold.class.getDeclaredFields()) {
            Check.is("rule 1: private " + f.getName(), Modifier.isPrivate(f.getModifiers()), true);
        }
    }

    private static void classes() {
        Set<Class<?>> all = new HashSet<>(List.of(Newsfold.class.getDeclaredClasses()));
        Check.is("rule 11: some twelve classes", all.size() + 1 <= 12, true);
        all.add(Newsfold.class);
        for (Class<?> c : all) {
            int fields = 0;
            for (Field f : c.getDeclaredFields()) {
                fields += Modifier.isStatic(f.getModifiers()) ? 0 : 1;
                Check.is("rule 5: static fields are final", Modifier.isStatic(f.getModifiers())
                    && !Modifier.isFinal(f.getModifiers()), false);
            }
            Check.is("rule 11: some twenty fields of " + c.getName(), fields <= 20, true);
            Check.is("rule 2: static " + c.getName(), c == Newsfold.class || Modifier.isStatic(c.getModifiers()), true);
            for (Method m : c.getDeclaredMethods()) {
                Check.is("rule 1: no name of the face in " + c.getName(), c != Newsfold.class && FACE.contains(m.getName()), false);
            }
        }
    }
}
