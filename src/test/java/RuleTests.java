/** Promises 21 to 28: RULES, LISTS, QUESTIONS, and what is counted of ITEMS. */
final class RuleTests {
    private RuleTests() { }

    static void run() {
        rule();
        unrule();
        reasons();
        order();
        views();
        ask();
        conditions();
        unask();
        search();
        hours();
    }

    private static void rule() {
        Newsfold x = new Newsfold();
        Check.argument("rule kind 5", x, () -> x.rule(5, 0, 0));
        Check.argument("rule kind -1", x, () -> x.rule(-1, 0, 0));
        Check.argument("rule value 100", x, () -> x.rule(0, 100, 0));
        Check.argument("rule value -1", x, () -> x.rule(0, -1, 0));
        Check.argument("rule points 10", x, () -> x.rule(0, 0, 10));
        Check.argument("rule points -10", x, () -> x.rule(0, 0, -10));
        Check.is("rule 0", x.rule(0, 0, 9), 0);
        Check.is("rule 1", x.rule(4, 99, -9), 1);
        for (int i = 2; i < 6; i++) {
            Check.is("rule " + i, x.rule(1, i, i), i);
        }
        Check.is("six", x.house(4), 6);
        Check.state("a seventh", x, () -> x.rule(0, 0, 0));
        Check.argument("a wrong seventh", x, () -> x.rule(0, 0, 10));
    }

    private static void unrule() {
        Newsfold x = Check.fetched("1,1,aa");
        Check.index("unrule without one", x, () -> x.unrule(0));
        x.rule(0, 0, 1);
        x.rule(0, 0, 2);
        x.rule(0, 0, 3);
        Check.is("unrule(1)", x.unrule(1), 2);
        Check.is("those behind it move up", x.reasons(0), "0+1 1+3");
        Check.index("unrule(2)", x, () -> x.unrule(2));
        Check.index("unrule(-1)", x, () -> x.unrule(-1));
        Check.is("a new one is the last one", x.rule(0, 0, 4) + " " + x.reasons(0), "2 0+1 1+3 2+4");
        x.unrule(0);
        x.unrule(0);
        x.unrule(0);
        Check.is("none left", x.house(4) + x.reasons(0), "0");
    }

    private static void reasons() {
        Newsfold x = Check.fetched("1,60,aa hh;2,0,aab hh;3,0,a a hh");
        Check.is("reasons without RULES", x.reasons(0), "");
        x.rule(0, 0, 3);
        x.rule(0, 64, 9);
        x.rule(1, 0, 0);
        x.rule(2, 0, -9);
        x.rule(3, 1, 2);
        x.rule(2, 1, 1);
        Check.is("a WORD as a whole, the FEED, a TIME ahead", x.reasons(0), "0+3 2+0");
        Check.is("AGE 0", x.reasons(1), "2+0 3-9");
        x.tick(59);
        Check.is("AGE 59", x.reasons(2), "2+0 3-9");
        x.tick(1);
        Check.is("AGE 60", x.reasons(2) + "|" + x.reasons(0), "2+0 3-9 5+1|0+3 2+0 3-9");
        x.mark(1, 0, 0, 1);
        Check.is("READ on one DESK", x.reasons(0) + " " + x.ofItem(0, 9), "0+3 2+0 3-9 4+2 -4");
        x.unrule(4);
        x.rule(3, 2, 7);
        Check.is("READ on one DESK, not two", x.reasons(0), "0+3 2+0 3-9");
        x.mark(0, 0, 0, 1);
        Check.is("READ on two", x.reasons(0), "0+3 2+0 3-9 5+7");
        x.unrule(5);
        x.rule(4, 1, 1);
        Check.is("a STORY of one", x.reasons(2), "2+0 3-9 4+1 5+1");
        Check.index("reasons(3)", x, () -> x.reasons(3));
        Check.index("reasons(-1)", x, () -> x.reasons(-1));
    }

    private static void order() {
        Newsfold x = Check.fetched("0,5,a;1,7,a;2,7,a;3,1,bb;4,9,a");
        Check.is("by TIME, then by number", x.list(0, 0), "4 1 2 0 3");
        x.rule(0, 9, 1);
        Check.is("by SCORE first", x.list(0, 0), "3 4 1 2 0");
        x.rule(0, 9, -2);
        Check.is("a SCORE below 0", x.list(0, 0), "4 1 2 0 3");
    }

    private static void views() {
        Newsfold x = Check.fetched("0,1,a;1,2,b;2,3,c;3,4,d;4,5,e");
        x.mark(1, 0, 0, 1);
        x.mark(1, 3, 0, 1);
        x.mark(1, 2, 1, 1);
        for (int folder = 1; folder < 5; folder++) {
            x.mark(1, folder, 2, folder);
        }
        Check.is("all", x.list(1, 0), "4 3 2 1 0");
        Check.is("not READ", x.list(1, 1) + "|" + x.list(0, 1), "4 2 1|4 3 2 1 0");
        Check.is("with STAR", x.list(1, 2) + "|" + x.list(2, 2), "2|");
        for (int folder = 1; folder < 5; folder++) {
            Check.is("FOLDER " + folder, x.list(1, 2 + folder) + "|" + x.list(0, 2 + folder), folder + "|");
        }
        x.mark(1, 1, 2, 4);
        Check.is("FOLDER 4", x.list(1, 6) + "|" + x.list(1, 3), "4 1|");
        Check.is("a QUESTION without CONDITIONS", x.list(1, 7), "4 3 2 1 0");
        Check.index("list(3, 10)", x, () -> x.list(3, 10));
        Check.index("list(-1, 0)", x, () -> x.list(-1, 0));
        Check.argument("list(0, 10)", x, () -> x.list(0, 10));
        Check.argument("list(0, -1)", x, () -> x.list(0, -1));
    }

    private static void ask() {
        Newsfold x = new Newsfold();
        Check.index("ask(3, 8, ..)", x, () -> x.ask(3, 8, 0, false));
        Check.index("ask(-1, ..)", x, () -> x.ask(-1, 0, 0, false));
        Check.argument("ask kind 8", x, () -> x.ask(0, 8, 0, false));
        Check.argument("ask kind -1", x, () -> x.ask(0, -1, 0, false));
        Check.argument("ask value 100", x, () -> x.ask(0, 0, 100, false));
        Check.argument("ask value -1", x, () -> x.ask(0, 0, -1, false));
        Check.is("the first", x.ask(0, 0, 0, false), 1);
        Check.is("the second", x.ask(0, 7, 99, true), 2);
        Check.is("the third", x.ask(0, 3, 1, true), 3);
        Check.state("a fourth", x, () -> x.ask(0, 0, 0, false));
        Check.argument("a wrong fourth", x, () -> x.ask(0, 0, 100, false));
        Check.is("of another one", x.ask(2, 0, 0, false) + " " + x.house(10), "1 4");
    }

    private static String asked(Newsfold x, int kind, int value) {
        x.unask(1);
        x.ask(1, kind, value, false);
        String is = x.list(2, 8);
        x.unask(1);
        x.ask(1, kind, value, true);
        return is + "|" + x.list(2, 8);
    }

    private static void conditions() {
        Newsfold x = Check.fetched("0,1,aa bb;1,2,bb aa;2,3,ab");
        x.feed(0);
        Check.put(x, 1, "0,1,ab");
        x.fetch(1);
        x.rule(0, 0, 2);
        x.mark(2, 0, 0, 1);
        x.mark(2, 1, 1, 1);
        x.mark(2, 2, 2, 4);
        x.mark(2, 3, 3, 9);
        Check.is("the WORD", asked(x, 0, 0), "1 0|2 3");
        Check.is("no WORD", asked(x, 0, 64), "|1 0 2 3");
        Check.is("the FEED", asked(x, 1, 1), "3|1 0 2");
        Check.is("READ", asked(x, 2, 1), "0|1 2 3");
        Check.is("not READ", asked(x, 2, 0), "1 2 3|0");
        Check.is("READ 2", asked(x, 2, 2), "|1 0 2 3");
        Check.is("STAR", asked(x, 3, 1), "1|0 2 3");
        Check.is("SCORE 2", asked(x, 4, 2), "1 0|2 3");
        Check.is("SCORE 3", asked(x, 4, 3), "|1 0 2 3");
        Check.is("SCORE 0", asked(x, 4, 0), "1 0 2 3|");
        Check.is("FOLDER", asked(x, 5, 4), "2|1 0 3");
        Check.is("no FOLDER", asked(x, 5, 0), "1 0 3|2");
        Check.is("NOTE", asked(x, 6, 9), "3|1 0 2");
        Check.is("a STORY of two", asked(x, 7, 2), "1 0|2 3");
        Check.is("a STORY of three", asked(x, 7, 3), "|1 0 2 3");
        Check.is("on another DESK", x.list(0, 8), "1 0 2 3");
        x.unask(1);
        x.ask(1, 0, 0, false);
        x.ask(1, 2, 0, true);
        Check.is("both", x.list(2, 8), "0");
        x.ask(1, 3, 1, false);
        Check.is("all three", x.list(2, 8), "");
        x.ask(0, 1, 1, false);
        x.ask(2, 1, 1, true);
        Check.is("each QUESTION in its VIEW", x.list(2, 7) + "|" + x.list(2, 9), "3|1 0 2");
    }

    private static void unask() {
        Newsfold x = Check.fetched("0,1,a");
        Check.is("unask of none", x.unask(2), 0);
        x.ask(2, 1, 1, false);
        x.ask(2, 1, 1, false);
        x.ask(1, 1, 1, false);
        Check.is("unask", x.unask(2), 2);
        Check.is("all go, and of that one alone", x.list(0, 9) + "|" + x.list(0, 8) + "|" + x.house(10), "0||1");
        Check.index("unask(3)", x, () -> x.unask(3));
        Check.index("unask(-1)", x, () -> x.unask(-1));
    }

    private static void search() {
        Newsfold x = Check.fetched("0,1,aa bb;1,2,aab aa;2,3,hh;3,3,a a");
        Check.is("search one", x.search(0, -1), "0 1");
        Check.is("search two", x.search(0, 9) + "|" + x.search(9, 0), "0|0");
        Check.is("search twice the same", x.search(0, 0), "0 1");
        Check.is("search the last one", x.search(63, -1), "2");
        Check.is("search what is not", x.search(1, -1) + "|" + x.search(0, 63), "|");
        Check.argument("search(-1, 0)", x, () -> x.search(-1, 0));
        Check.argument("search(64, 0)", x, () -> x.search(64, 0));
        Check.argument("search(0, -2)", x, () -> x.search(0, -2));
        Check.argument("search(0, 64)", x, () -> x.search(0, 64));
        x.tick(10);
        for (int d = 0; d < 3; d++) {
            x.mark(d, 0, 0, 1);
        }
        x.forget(0);
        Check.is("search without what is forgotten", x.search(0, -1), "1");
    }

    private static void hours() {
        Newsfold x = Check.fetched("0,59,a;1,60,b;2,119,c;3,1500,d;4,1439,e;5,9999,f");
        x.feed(0);
        Check.put(x, 1, "0,61,a");
        x.fetch(1);
        Check.is("hour 0", x.hours(-1, 0), 1);
        Check.is("hour 1", x.hours(-1, 1) + " " + x.hours(0, 1) + " " + x.hours(1, 1), "4 3 1");
        Check.is("hour 23", x.hours(0, 23), 1);
        Check.is("hour 22", x.hours(-1, 22), 1);
        Check.is("hour 2", x.hours(-1, 2), 0);
        Check.index("hours(2, 24)", x, () -> x.hours(2, 24));
        Check.index("hours(-2, 0)", x, () -> x.hours(-2, 0));
        Check.argument("hours(0, 24)", x, () -> x.hours(0, 24));
        Check.argument("hours(-1, -1)", x, () -> x.hours(-1, -1));
        x.tick(100);
        for (int d = 0; d < 3; d++) {
            x.mark(d, 0, 0, 1);
        }
        x.forget(0);
        Check.is("hours without what is forgotten", x.hours(-1, 0), 0);
    }
}
