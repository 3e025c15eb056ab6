/** Each sentence of promises 15 to 28 that names an edge: one method each. */
final class StoryCallEdges {
    private StoryCallEdges() { }

    static void run() {
        ofItem();
        ofItemWhere();
        text();
        textWhere();
        found();
        findWhere();
        story();
        storyWhere();
        apartAlone();
        apartBefore();
        apartWhere();
        commonOfItself();
        commonWhere();
        ruleBehind();
        ruleWhat();
        ruleGoes();
        unruleWhere();
        reasons();
        reasonsWhere();
        list();
        listWhere();
        conditionComes();
        askWhere();
        conditionsGo();
        unaskWhere();
        searchBoth();
        searched();
        searchWhat();
        hoursOfAll();
        hoursOfDay();
        hoursWhere();
    }

    private static void ofItem() {
        Sentence.of(15, "3 how many WORDS, 4 how often it CHANGED, 5 its CHANGE (0 without), 6 CLOCK as it came, 7 its STORY,"
            + " 8 how many ITEMS that has, 9 SCORE, 10 on how many DESKS it is READ");
        Newsfold x = Edge.fetched(0, "0,0,a;1,9999,a b c d e;2,7,a a");
        Check.is("one WORD, five, one twice", x.ofItem(0, 3) + " " + x.ofItem(1, 3) + " " + x.ofItem(2, 3), "1 5 2");
        Check.is("0 without CHANGE, CLOCK 0", x.ofItem(0, 4) + " " + x.ofItem(0, 5) + " " + x.ofItem(0, 6), "0 0 0");
        Check.is("READ on 0 to 3 DESKS", readers(0) + " " + readers(1) + " " + readers(2) + " " + readers(3), "0 1 2 3");
        Newsfold y = Edge.forty();
        Check.is("the first and the last of 40", y.ofItem(0, 1) + " " + y.ofItem(39, 1) + " " + y.ofItem(39, 7) + " " + y.ofItem(39, 8),
            "0 39 39 1");
        Sentence.of(15, "Returns that.");
        for (int what = 0; what < 11; what++) {
            int of = what;
            Edge.asks("ofItem " + what, Edge::rich, z -> z.ofItem(5, of));
        }
    }

    private static int readers(int desks) {
        Newsfold x = Edge.fetched(0, "0,0,a");
        for (int desk = 0; desk < desks; desk++) {
            x.mark(2 - desk, 0, 0, 1);
        }
        x.mark(0, 0, 1, 1);
        return x.ofItem(0, 10);
    }

    private static void ofItemWhere() {
        Sentence.of(15, "Throws `IndexOutOfBoundsException` if no such ITEM is KEPT");
        Edge.indexes("ofItem", Edge::rich, 0, 5, (x, n) -> x.ofItem(n, 0));
        Edge.indexes("ofItem of 40", Edge::forty, 0, 39, (x, n) -> x.ofItem(n, 10));
        Edge.index("one that is GONE, ahead of a wrong what", Edge::rich, x -> x.ofItem(6, 11));
        Edge.index("without ITEMS", Newsfold::new, x -> x.ofItem(0, 0));
        Sentence.of(15, "Throws `IllegalArgumentException` if what is not 0 to 10");
        Edge.arguments("ofItem what", Edge::rich, 0, 10, (x, n) -> x.ofItem(0, n));
    }

    private static void text() {
        Sentence.of(16, "Returns its TEXT.");
        Newsfold x = Edge.fetched(0, "0,0,h;1,0," + "a".repeat(100));
        Check.is("one SIGN, many", x.text(0) + x.text(1), "h" + "a".repeat(100));
        Edge.asks("text", Edge::rich, y -> y.text(0));
    }

    private static void textWhere() {
        Sentence.of(16, "Throws `IndexOutOfBoundsException` if no such ITEM is KEPT");
        Edge.indexes("text", Edge::rich, 0, 5, Newsfold::text);
        Edge.indexes("text of 40", Edge::forty, 0, 39, Newsfold::text);
        Edge.index("text of one that is GONE", Edge::rich, x -> x.text(6));
    }

    private static void found() {
        Sentence.of(17, "Returns the ITEM that is KEPT of it; -9 if it is GONE; NONE without.");
        Newsfold x = Edge.rich();
        Check.is("KEPT, the first and the last one", x.find(0, 1) + " " + x.find(1, 6), "0 5");
        Check.is("GONE, of that FEED alone", x.find(1, 7) + " " + x.find(0, 7) + " " + x.find(2, 7), "-9 -1 -1");
        Check.is("none", x.find(0, 0) + " " + x.find(0, 99) + " " + x.find(2, 1) + " " + x.find(0, 196), "-1 -1 -1 -1");
        Check.is("NAMES 0 and 196", Edge.fetched(0, "0,0,a").find(0, 0) + " " + Edge.fetched(0, ",0,afe").find(0, 196), "0 0");
        Check.is("the 40th", Edge.forty().find(0, 39), 39);
        Edge.asks("find", Edge::rich, y -> y.find(0, 1) + " " + y.find(1, 7) + " " + y.find(2, 0));
    }

    private static void findWhere() {
        Sentence.of(17, "Throws `IndexOutOfBoundsException` if there is no such FEED");
        Edge.indexes("find of FEED", Edge::rich, 0, 2, (x, n) -> x.find(n, 1));
        Edge.index("without FEEDS", Newsfold::new, x -> x.find(0, 0));
        Edge.index("ahead of a wrong NAME", Edge::rich, x -> x.find(3, 197));
        Sentence.of(17, "Throws `IllegalArgumentException` if name is not 0 to 196");
        Edge.arguments("find NAME", Edge::rich, 0, 196, (x, n) -> x.find(0, n));
    }

    private static void story() {
        Sentence.of(18, "Returns the ITEMS of its STORY by rising numbers, with a blank between two.");
        Newsfold x = Edge.fetched(0, "0,9,a b;1,0,c;2,5,b a;3,1,a b");
        Check.is("by rising numbers, whatever ORDER is", x.story(3) + "|" + x.story(0) + "|" + x.list(0, 0), "0 2 3|0 2 3|0 2 3 1");
        Check.is("one", x.story(1), "1");
        Edge.asks("story", Edge::rich, y -> y.story(5));
    }

    private static void storyWhere() {
        Sentence.of(18, "Throws `IndexOutOfBoundsException` if no such ITEM is KEPT");
        Edge.indexes("story", Edge::rich, 0, 5, Newsfold::story);
        Edge.indexes("story of 40", Edge::forty, 0, 39, Newsfold::story);
        Edge.index("story of one that is GONE", Edge::rich, x -> x.story(6));
    }

    private static void apartAlone() {
        Sentence.of(19, "Tells whether two ITEMS are held APART (that alone does not part a STORY, if one comes from one to the other by others).");
        Newsfold x = Edge.fetched(0, "0,0,a b;1,0,a b;2,0,a b");
        x.apart(0, 2, true);
        Check.is("by others", x.story(0) + "|" + x.house(8), "0 1 2|1");
        x.apart(1, 2, true);
        Check.is("by none", x.story(0) + "|" + x.story(2) + "|" + x.house(8), "0 1|2|2");
        Newsfold y = Edge.fetched(0, "0,0,a;1,0,b");
        y.apart(0, 1, true);
        Check.is("two that were not AKIN", y.house(8) + " " + Edge.refetched(y, "0,1,c d;1,1,d c") + " " + y.story(0), "1 2 0");
        Newsfold z = Edge.forty();
        z.apart(39, 0, true);
        Check.is("the first and the last of 40", z.house(8) + " " + z.apart(0, 39, true), "1 1");
    }

    private static void apartBefore() {
        Sentence.of(19, "Returns 1 if they were before, otherwise 0.");
        Newsfold x = Edge.fetched(0, "0,0,a;1,0,b;2,0,c");
        Check.is("one way and the other", x.apart(0, 1, true) + " " + x.apart(1, 0, true) + " " + x.apart(1, 0, false) + " "
            + x.apart(0, 1, false) + " " + x.house(8), "0 1 1 0 0");
        Check.is("three pairs", x.apart(0, 1, true) + x.apart(1, 2, true) + x.apart(2, 0, true) + " " + x.house(8), "0 3");
        Edge.leaves("held APART as they are", Edge::rich, 1, y -> y.apart(5, 0, true));
        Edge.leaves("not held APART as they are not", Edge::rich, 0, y -> y.apart(0, 1, false));
        Sentence.of(19, "- `other`: another one");
        Check.is("that pair alone", x.apart(1, 2, false) + " " + x.apart(0, 1, true) + " " + x.apart(0, 2, true), "1 1 1");
    }

    private static void apartWhere() {
        Sentence.of(19, "Throws `IndexOutOfBoundsException` if one of these ITEMS is not KEPT");
        Edge.indexes("apart one", Edge::rich, 0, 4, (x, n) -> x.apart(n < 5 ? n : n + 2, 5, true));
        Edge.indexes("apart other", Edge::rich, 1, 5, (x, n) -> x.apart(0, n == 0 ? -1 : n, true));
        Edge.index("one that is GONE", Edge::rich, x -> x.apart(6, 0, false));
        Edge.index("another one that is GONE", Edge::rich, x -> x.apart(0, 6, true));
        Edge.index("the same, and not KEPT", Edge::rich, x -> x.apart(6, 6, true));
        Edge.index("41 of 40", Edge::forty, x -> x.apart(39, 40, true));
        Sentence.of(19, "Throws `IllegalArgumentException` if they are the same");
        Edge.argument("the same", Edge::rich, x -> x.apart(0, 0, true));
        Edge.argument("the same, not held APART", Edge::rich, x -> x.apart(5, 5, false));
    }

    private static void commonOfItself() {
        Sentence.of(20, "Returns how many unlike RARE WORDS both TEXTS have (of an ITEM itself: how many it has).");
        Newsfold x = Edge.fetched(0, "0,0,a b c d e;1,9999,e d c b a;2,0,f f;3,0,g h;4,0,h;5,0,h;6,0,h");
        Check.is("five, both ways, whatever TIME is", x.common(0, 1) + " " + x.common(1, 0), "5 5");
        Check.is("of itself: five, one of two alike, one of two that is RARE, none", x.common(0, 0) + " " + x.common(2, 2) + " "
            + x.common(3, 3) + " " + x.common(4, 4), "5 1 1 0");
        Check.is("none", x.common(0, 2) + x.common(3, 4), 0);
        x.apart(0, 1, true);
        Check.is("held APART", x.common(0, 1), 5);
        Check.is("the last of 40", Edge.forty().common(39, 39) + " " + Edge.forty().common(38, 39), "1 0");
        Edge.asks("common", Edge::rich, y -> y.common(0, 5) + " " + y.common(3, 3));
    }

    private static void commonWhere() {
        Sentence.of(20, "Throws `IndexOutOfBoundsException` if one of these ITEMS is not KEPT");
        Edge.indexes("common item", Edge::rich, 0, 5, (x, n) -> x.common(n, 0));
        Edge.indexes("common other", Edge::rich, 0, 5, (x, n) -> x.common(0, n));
        Edge.index("one that is GONE", Edge::rich, x -> x.common(6, 6));
    }

    private static void ruleBehind() {
        Sentence.of(21, "A RULE comes behind the others.");
        Newsfold x = Edge.fetched(0, "0,0,aa");
        Check.is("the first", x.rule(0, 0, 9) + x.reasons(0), "00+9");
        Check.is("the second", x.rule(1, 0, -9) + x.reasons(0), "10+9 1-9");
        Check.is("twice the same is two", x.rule(1, 0, -9) + x.reasons(0), "20+9 1-9 2-9");
        Sentence.of(21, "Returns its number.");
        Check.is("from 0 to 5", new Newsfold().rule(0, 0, 0) + " " + x.rule(0, 0, 0) + " " + x.rule(0, 0, 0) + " " + x.rule(0, 0, 0), "0 3 4 5");
    }

    private static void ruleWhat() {
        Sentence.of(21, "Throws `IllegalArgumentException` if kind is not 0 to 4, value not 0 to 99, or points not -9 to 9");
        Edge.arguments("rule kind", Edge::rich, 0, 4, (x, n) -> x.rule(n, 1, 1));
        Edge.arguments("rule points", Edge::rich, -9, 9, (x, n) -> x.rule(0, 1, n));
        for (int kind = 0; kind < 5; kind++) {
            int of = kind;
            Edge.arguments("rule value of kind " + kind, Edge::rich, 0, 99, (x, n) -> x.rule(of, n, 1));
        }
        Edge.argument("ahead of six", StoryEdges::six, x -> x.rule(5, 0, 0));
        Sentence.of(21, "Throws `IllegalStateException` if there are 6");
        Edge.state("six", StoryEdges::six, x -> x.rule(0, 0, 0));
    }

    private static void ruleGoes() {
        Sentence.of(22, "A RULE goes.");
        Newsfold x = StoryEdges.six();
        Check.is("the last", x.unrule(5) + x.reasons(0), "50+1 1+2 2+3 3+4 4+5");
        Check.is("the first", x.unrule(0) + x.reasons(0), "40+2 1+3 2+4 3+5");
        Sentence.of(22, "Returns how many there are then.");
        Check.is("down to none", x.unrule(1) + " " + x.unrule(1) + " " + x.unrule(1) + " " + x.unrule(0) + x.reasons(0), "3 2 1 0");
        Check.is("what goes leaves nothing behind", x.rule(4, 2, 1) + x.reasons(0) + x.ofItem(0, 9), "00");
    }

    private static void unruleWhere() {
        Sentence.of(22, "Throws `IndexOutOfBoundsException` if there is no such RULE");
        Edge.indexes("unrule", Edge::rich, 0, 1, Newsfold::unrule);
        Edge.indexes("unrule of six", StoryEdges::six, 0, 5, Newsfold::unrule);
        Edge.index("unrule without RULES", Newsfold::new, x -> x.unrule(0));
    }

    private static void reasons() {
        Sentence.of(23, "the number of the RULE, \"+\" (or \"-\", if POINTS are below 0), and POINTS without sign, with a blank between two"
            + " (\"0+3 2-1\"); \"\" without.");
        Newsfold x = Edge.fetched(0, "0,0,aa;1,0,ab");
        Check.is("without RULES", x.reasons(0), "");
        x.rule(0, 0, 3);
        x.rule(0, 2, 5);
        x.rule(0, 0, -1);
        Check.is("as it is written", x.reasons(0), "0+3 2-1");
        Check.is("without REASONS", x.reasons(1), "");
        x.rule(1, 0, 0);
        x.rule(1, 0, 9);
        x.rule(1, 0, -9);
        Check.is("0, 9, -9, and the RULE 5", x.reasons(1), "3+0 4+9 5-9");
        Edge.asks("reasons", Edge::rich, y -> y.reasons(5));
    }

    private static void reasonsWhere() {
        Sentence.of(23, "Throws `IndexOutOfBoundsException` if no such ITEM is KEPT");
        Edge.indexes("reasons", Edge::rich, 0, 5, Newsfold::reasons);
        Edge.index("reasons of one that is GONE", Edge::rich, x -> x.reasons(6));
    }

    private static void list() {
        Sentence.of(24, "Returns the ITEMS of the LIST, with a blank between two.");
        Newsfold x = Edge.fetched(0, "0,0,a;1,0,b");
        Check.is("none, one, two", x.list(0, 2) + "|" + x.mark(0, 1, 1, 1) + x.list(0, 2) + "|" + x.list(0, 0), "|01|0 1");
        for (int view = 0; view < 10; view++) {
            int of = view;
            Edge.asks("list of VIEW " + view, Edge::rich, y -> y.list(2, of));
        }
    }

    private static void listWhere() {
        Sentence.of(24, "Throws `IndexOutOfBoundsException` if desk is not 0 to 2");
        Edge.indexes("list of DESK", Edge::rich, 0, 2, (x, n) -> x.list(n, 0));
        Edge.index("ahead of a wrong VIEW", Edge::rich, x -> x.list(3, 10));
        Sentence.of(24, "Throws `IllegalArgumentException` if view is not 0 to 9");
        Edge.arguments("list of VIEW", Edge::rich, 0, 9, (x, n) -> x.list(0, n));
    }

    private static void conditionComes() {
        Sentence.of(25, "A CONDITION comes to a QUESTION.");
        Newsfold x = Edge.fetched(0, "0,0,aa;1,0,ab");
        x.ask(2, 0, 0, false);
        Check.is("to that one alone", x.list(0, 9) + "|" + x.list(0, 7) + "|" + x.list(0, 8), "0|0 1|0 1");
        x.ask(2, 0, 0, true);
        Check.is("behind the first", x.list(0, 9), "");
        Sentence.of(25, "Returns how many it has then.");
        Newsfold y = new Newsfold();
        Check.is("1 to 3, each its own", y.ask(0, 0, 0, false) + " " + y.ask(2, 0, 0, false) + " " + y.ask(0, 0, 0, false) + " "
            + y.ask(0, 0, 0, true) + " " + y.ask(2, 0, 0, true) + " " + y.house(10), "1 1 2 3 2 5");
    }

    private static void askWhere() {
        Sentence.of(25, "Throws `IndexOutOfBoundsException` if question is not 0 to 2");
        Edge.indexes("ask QUESTION", Edge::rich, 0, 2, (x, n) -> x.ask(n, 0, 0, true));
        Edge.index("ahead of a wrong kind and value", Edge::rich, x -> x.ask(3, 8, 100, false));
        Sentence.of(25, "Throws `IllegalArgumentException` if kind is not 0 to 7, or value not 0 to 99");
        Edge.arguments("ask kind", Edge::rich, 0, 7, (x, n) -> x.ask(0, n, 1, false));
        for (int kind = 0; kind < 8; kind++) {
            int of = kind;
            Edge.arguments("ask value of kind " + kind, Edge::rich, 0, 99, (x, n) -> x.ask(0, of, n, false));
        }
        Edge.argument("a wrong kind ahead of three", StoryEdges::fullQuestions, x -> x.ask(0, 8, 0, false));
        Edge.argument("a wrong value ahead of three", StoryEdges::fullQuestions, x -> x.ask(0, 0, 100, false));
        Sentence.of(25, "Throws `IllegalStateException` if it has 3");
        Edge.state("three", StoryEdges::fullQuestions, x -> x.ask(2, 7, 99, true));
    }

    private static void conditionsGo() {
        Sentence.of(26, "All CONDITIONS of a QUESTION go.");
        Newsfold x = StoryEdges.fullQuestions();
        x.unask(1);
        Check.is("of that one alone", x.house(10) + " " + x.list(0, 7) + "|" + x.list(0, 8) + "|" + x.list(0, 9), "6 |0|0");
        Sentence.of(26, "Returns how many these were.");
        Check.is("three, then none", x.unask(0) + " " + x.unask(0) + " " + x.list(0, 7), "3 0 0");
        Edge.leaves("none", Edge::rich, 0, y -> y.unask(2));
        Check.is("one", Edge.rich().unask(0), 1);
    }

    private static void unaskWhere() {
        Sentence.of(26, "Throws `IndexOutOfBoundsException` if question is not 0 to 2");
        Edge.indexes("unask", Edge::rich, 0, 2, Newsfold::unask);
    }

    private static void searchBoth() {
        Sentence.of(27, "- `b`: a WORD; NONE for none");
        Newsfold x = Edge.fetched(0, "0,0,aa hh;1,9,hh aa;2,0,aa;3,0,hh");
        Check.is("NONE", x.search(0, -1) + "|" + x.search(63, -1), "0 1 2|0 1 3");
        Check.is("both", x.search(0, 63) + "|" + x.search(63, 0), "0 1|0 1");
        Check.is("the same", x.search(0, 0), "0 1 2");
        Check.is("one of them is not there", x.search(0, 1) + x.search(1, 0) + x.search(1, -1) + x.search(1, 1), "");
    }

    private static void searched() {
        Sentence.of(27, "Returns the KEPT ITEMS that have it (both) in their TEXT, by rising numbers, with a blank between two.");
        Newsfold x = Edge.fetched(0, "0,0,aa;1,0,aab;2,9,aa aa;3,50,b aa");
        x.rule(0, 0, 5);
        Check.is("by rising numbers, whatever ORDER is", x.search(0, -1) + "|" + x.list(0, 0), "0 2 3|3 2 0 1");
        Edge.readOnAll(x, 0);
        x.forget(0);
        Check.is("KEPT ones alone", x.search(0, -1), "2 3");
        Check.is("the last of 40", Edge.forty().search(39, -1), "39");
        Edge.asks("search", Edge::rich, y -> y.search(0, 9) + y.search(7, -1));
    }

    private static void searchWhat() {
        Sentence.of(27, "Throws `IllegalArgumentException` if a is not 0 to 63, or b not -1 to 63");
        Edge.arguments("search a", Edge::rich, 0, 63, (x, n) -> x.search(n, 1));
        Edge.arguments("search b", Edge::rich, -1, 63, (x, n) -> x.search(1, n));
        Edge.argument("NONE for the first", Edge::rich, x -> x.search(-1, 0));
    }

    private static void hoursOfAll() {
        Sentence.of(28, "- `feed`: a FEED; NONE for all");
        Newsfold x = Edge.fetched(0, "0,60,a;1,61,a");
        x.feed(1);
        x.feed(0);
        Check.put(x, 1, "<a/60>");
        x.fetch(1);
        Check.is("each and all", x.hours(0, 1) + " " + x.hours(1, 1) + " " + x.hours(2, 1) + " " + x.hours(-1, 1), "2 1 0 3");
        Check.is("all of no FEED", new Newsfold().hours(-1, 0), 0);
    }

    private static void hoursOfDay() {
        Sentence.of(28, "TIME / 60 (rounded down) MOD 24 is that.");
        int[] times = {0, 59, 60, 1379, 1380, 1439, 1440, 2879, 2880, 9959, 9960, 9999};
        int[] due = {0, 0, 1, 22, 23, 23, 0, 23, 0, 21, 22, 22};
        for (int i = 0; i < times.length; i++) {
            Newsfold x = Edge.fetched(0, "1," + times[i] + ",a");
            for (int hour = 0; hour < 24; hour++) {
                Check.is("TIME " + times[i] + ", hour " + hour, x.hours(-1, hour), hour == due[i] ? 1 : 0);
            }
        }
        Check.is("40", Edge.forty().hours(0, 1), 40);
        Edge.asks("hours", Edge::rich, y -> y.hours(-1, 0) + " " + y.hours(2, 23));
    }

    private static void hoursWhere() {
        Sentence.of(28, "Throws `IndexOutOfBoundsException` if there is no such FEED (and it is not NONE)");
        Edge.indexes("hours of FEED", Edge::rich, -1, 2, (x, n) -> x.hours(n, 0));
        Edge.index("without FEEDS", Newsfold::new, x -> x.hours(0, 0));
        Edge.index("ahead of a wrong hour", Edge::rich, x -> x.hours(3, 24));
        Sentence.of(28, "Throws `IllegalArgumentException` if hour is not 0 to 23");
        Edge.arguments("hours: hour", Edge::rich, 0, 23, (x, n) -> x.hours(0, n));
        Edge.arguments("hours: hour of all", Edge::rich, 0, 23, (x, n) -> x.hours(-1, n));
    }
}
