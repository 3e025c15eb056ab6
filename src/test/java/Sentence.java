import java.io.IOException;
import java.nio.file.Files;
import java.nio.file.Path;
import java.util.ArrayList;
import java.util.List;
import java.util.Set;
import java.util.TreeSet;

/**
 * The sentences of DOC.md: each test of an edge quotes the one that it is of. A quotation has to stand in the
 * document, and each sentence that names an edge has to be quoted by one test or more.
 */
final class Sentence {
    static final int DESCRIPTION = 0;
    private static final int PROMISES = 50;
    private static final String[] TOLD = new String[PROMISES + 1];
    private static final List<List<String>> UNITS = new ArrayList<>();
    private static final List<Set<String>> QUOTED = new ArrayList<>();

    /** What tells a name or a shape alone, and no edge: no test has to quote it. */
    private static final Set<String> WITHOUT_EDGE = Set.of("Whole numbers.", "A set is the sum of 2^k for each k in it.",
        "\"X by X\" is by rising numbers. == 1.", "Texts, pages, entries SIGNS have codes:", "A WORD:", "A NUMBER:",
        "The WORD w (0 to 63) has two:", "FORM 0:", "FORM 1:", "The TEXT of an ENTRY:",
        "An ENTRY without NAME gets one by its TEXT:", "Some calls are LET, but can not be done:",
        "Each has a FEED, a NAME, a TIME, a TEXT.", "It is KEPT till it is forgotten;", "To FETCH a FEED:", "NEW:",
        "CHANGED:", "FAULTS:", "Behind it GAP is another one:", "Each has for each ITEM four MARKS:",
        "An ACT of a DESK gives a MARK another value:", "(So a STAMP tells a count, and whose it is;",
        "ROW of a DESK:", "A STEP:", "To undo one:", "KNOWN of a DESK and another one:", "As one comes:", "A STORY:",
        "Each has a kind, a value, and POINTS.", "It fits an ITEM by its kind:", "SCORE:", "REASONS:", "these RULES.", "ORDER:",
        "CONDITIONS of an ITEM on a DESK:", "VIEWS of a DESK:", "LIST:", "To forget by it:", "SHOWN:",
        "The constructor and the methods follow, a promise each:", "the signature, then what it does.");

    private Sentence() { }

    /** Has to be called ahead of all quotations; without the document they are not checked. */
    static void read(Path document) throws IOException {
        if (!Files.exists(document)) {
            System.out.println(document + " is not there: quotations are not checked");
            return;
        }
        String all = Files.readString(document);
        String description = between(all, "## Description", "## Promise 1:");
        TOLD[DESCRIPTION] = flat(description);
        UNITS.add(List.of(flat(description).split("(?<=[.)])\\s+(?=[A-Z(\"])|(?<=[;:]) ")));
        QUOTED.add(new TreeSet<>());
        for (int promise = 1; promise <= PROMISES; promise++) {
            String text = between(all, "## Promise " + promise + ":",
                promise < PROMISES ? "## Promise " + (promise + 1) + ":" : "## Not promised");
            TOLD[promise] = flat(text);
            UNITS.add(unitsOf(text));
            QUOTED.add(new TreeSet<>());
        }
    }

    private static String between(String all, String from, String to) {
        int start = all.indexOf(from);
        int end = all.indexOf(to);
        return start >= 0 && end > start ? all.substring(start + from.length(), end) : "";
    }

    private static String flat(String text) {
        return text.strip().replaceAll("\\s+", " ");
    }

    /** The lines of a promise, but for its signature and those arguments that are told by a name alone. */
    private static List<String> unitsOf(String promise) {
        List<String> units = new ArrayList<>();
        String[] lines = promise.strip().split("\n");
        for (int i = 1; i < lines.length; i++) {
            String line = flat(lines[i]);
            boolean isName = line.startsWith("- `") && !line.matches(".*(\\d|NONE|another|likewise).*");
            if (!line.isEmpty() && !line.startsWith("`") && !line.startsWith("----") && !isName) {
                units.add(line);
            }
        }
        return units;
    }

    /** The checks behind that call are of this sentence. */
    static void of(int promise, String words) {
        if (QUOTED.isEmpty()) {
            return;
        }
        Check.is("DOC.md, promise " + promise + ", has: " + words, TOLD[promise].contains(words), true);
        QUOTED.get(promise).add(words);
    }

    /** To be called behind all tests. */
    static void checkThatAllAreQuoted() {
        for (int promise = 0; promise < UNITS.size(); promise++) {
            for (String unit : UNITS.get(promise)) {
                if (!WITHOUT_EDGE.contains(unit)) {
                    Check.is("a test quotes, of promise " + promise + ": " + unit, isQuoted(promise, unit), true);
                }
            }
        }
    }

    private static boolean isQuoted(int promise, String unit) {
        for (String words : QUOTED.get(promise)) {
            if (unit.contains(words) || words.contains(unit)) {
                return true;
            }
        }
        return false;
    }
}
