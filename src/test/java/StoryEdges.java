/** Each sentence of section 4 of the Description that names an edge: one method each. */
final class StoryEdges {
    private StoryEdges() { }

    static void run() {
        ofKeptItems();
        rare();
        akin();
        storyOfMany();
        smallestNumber();
        sixRules();
        wordOfRule();
        feedOfRule();
        ageOfRule();
        readOfRule();
        storyOfRule();
        score();
        order();
        threeConditions();
        perhapsNot();
        asOfRules();
        readIsValue();
        starIsValue();
        scoreOrMore();
        folderIsValue();
        noteIsValue();
        storyOrMore();
        eachCondition();
        views();
        listInOrder();
    }

    private static void of(String words) {
        Sentence.of(Sentence.DESCRIPTION, words);
    }

    private static void ofKeptItems() {
        of("All of this is of KEPT ITEMS.");
        Newsfold x = Edge.fetched(0, "0,0,aa b;1,0,aa b;2,5,aa b;3,900,b c;4,0,aa d");
        x.rule(0, 0, 1);
        Check.is("four have both: no STORY", x.story(0) + "|" + x.house(7) + " " + x.common(0, 1), "0|5 0");
        Edge.readOnAll(x, 4);
        x.forget(0);
        Check.is("aa is RARE now, b is not", x.story(0) + "|" + x.common(0, 1), "0|1");
        Edge.readOnAll(x, 3);
        x.tick(600);
        x.tick(300);
        Check.is("b is RARE without ITEM 3", x.forget(0) + " " + x.story(0) + "|" + x.common(0, 1), "1 0 1 2|2");
        Check.is("what is GONE is in no LIST", x.list(0, 0) + "|" + x.search(0, -1) + "|" + x.hours(-1, 15) + x.house(7), "2 0 1|0 1 2|01");
    }

    private static void rare() {
        of("A WORD (as a text) is RARE, if at most 3 ITEMS have it in their TEXT.");
        Check.is("one", Edge.fetched(0, "0,0,a").common(0, 0), 1);
        Check.is("three", Edge.fetched(0, "0,0,a;1,0,a;2,0,a").common(0, 1), 1);
        Check.is("four", Edge.fetched(0, "0,0,a;1,0,a;2,0,a;3,0,a").common(0, 1), 0);
        Check.is("three, one of them has it five times", Edge.fetched(0, "0,0,a;1,0,a;2,0,a a a a a").common(0, 2), 1);
        Check.is("three, and other WORDS with it", Edge.fetched(0, "0,0,a;1,0,a;2,0,a;3,0,ab;4,0,ba;5,0,aa").common(0, 1), 1);
        Check.is("a WORD of many letters", Edge.fetched(0, "0,0,abcdefghabcdefgh;1,0,abcdefghabcdefgh;2,0,abcdefghabcdefga")
            .common(0, 1), 1);
        String[] alike = {"efhghcdgahg", "hfccbegcbfc", "dgeeefdf", "eedcdcfeccc"};
        for (int i = 0; i < 4; i += 2) {
            Newsfold y = Edge.fetched(0, "0,0,a " + alike[i] + ";1,0,a " + alike[i + 1]);
            Check.is("WORDS whose signs give the same number modulo 2^32", y.common(0, 1) + " " + y.story(0), "1 0");
        }
        Newsfold x = Edge.fetched(0, "0,0,a b;1,0,a b;2,0,a b;3,0,c");
        Edge.refetched(x, "3,1,a");
        Check.is("a fourth by another TEXT", x.common(0, 1) + " " + x.story(0), "1 0");
        Edge.refetched(x, "3,2,c");
        Check.is("no fourth by another TEXT", x.common(0, 1) + " " + x.story(0), "2 0 1 2");
        x.feed(1);
        Check.put(x, 1, "<b/0>");
        x.fetch(1);
        Check.is("a fourth of another FEED", x.common(0, 1) + " " + x.story(0), "1 0");
    }

    private static void akin() {
        of("Two ITEMS are AKIN, if two or more unlike RARE WORDS are in both TEXTS, their TIMES differ by at most 720, and they are not held APART.");
        Check.is("one WORD", Edge.fetched(0, "0,0,a b;1,0,a c").story(0), "0");
        Check.is("two", Edge.fetched(0, "0,0,a b;1,0,b a").story(0), "0 1");
        Check.is("five", Edge.fetched(0, "0,0,a b c d e;1,0,e d c b a").story(0), "0 1");
        Check.is("the fifth of each", Edge.fetched(0, "0,0,a b c d e;1,0,f g h e a").story(0), "0 1");
        Check.is("the fifth alone", Edge.fetched(0, "0,0,a b c d e;1,0,e").story(0), "0");
        Check.is("one twice", Edge.fetched(0, "0,0,a a;1,0,a a").story(0), "0");
        Check.is("two, one of them twice", Edge.fetched(0, "0,0,a a b;1,0,b a b").story(1), "0 1");
        Check.is("two, one of them not RARE", Edge.fetched(0, "0,0,a b;1,0,a b;2,0,b;3,0,b").story(0), "0");
        Check.is("719, 720, 721", Edge.fetched(0, "0,0,a b;1,719,a b").story(0) + "|" + Edge.fetched(0, "0,0,a b;1,720,a b").story(0)
            + "|" + Edge.fetched(0, "0,0,a b;1,721,a b").story(0), "0 1|0 1|0");
        Check.is("the same the other way round", Edge.fetched(0, "0,720,a b;1,0,a b").story(0) + "|"
            + Edge.fetched(0, "0,721,a b;1,0,a b").story(0) + "|" + Edge.fetched(0, "0,9999,a b;1,9279,a b").story(1), "0 1|0|0 1");
        Newsfold x = Edge.fetched(0, "0,0,a b;1,0,a b");
        x.apart(1, 0, true);
        Check.is("held APART", x.story(0) + "|" + x.story(1), "0|1");
        x.apart(0, 1, false);
        Check.is("no more", x.story(0), "0 1");
        Edge.refetched(x, "1,721,a b");
        Check.is("a TIME that is another one", x.story(0) + "|" + x.house(7), "0|2");
    }

    /** 40 ITEMS, each AKIN to the next one alone: the k-th that came has the number k, and is next to k + 1. */
    static Newsfold chain() {
        Newsfold x = new Newsfold();
        x.feed(0);
        for (int k = 0; k < 4; k++) {
            x.put(0);
            for (int i = 10 * k; i < 10 * k + 10; i++) {
                x.write(0, i, 720 * (i % 2), i, i + 1, i + 2);
            }
            x.fetch(0);
        }
        return x;
    }

    private static void storyOfMany() {
        of("an ITEM, and all to which one comes from it by AKIN ones;");
        Newsfold x = chain();
        Check.is("a STORY of 40", x.ofItem(0, 8) + " " + x.ofItem(39, 8) + " " + x.ofItem(39, 7) + " " + x.house(7), "40 40 0 1");
        Check.is("told whole", x.story(39), "0 1 2 3 4 5 6 7 8 9 10 11 12 13 14 15 16 17 18 19 20 21 22 23 24 25 26 27 28 29 30 31 32 33"
            + " 34 35 36 37 38 39");
        x.apart(38, 39, true);
        Check.is("39 and one", x.ofItem(0, 8) + " " + x.story(39) + " " + x.ofItem(39, 7) + " " + x.house(7), "39 39 39 2");
        x.apart(0, 1, true);
        Check.is("38 and two", x.ofItem(1, 8) + " " + x.story(0) + " " + x.ofItem(38, 7) + " " + x.house(7), "38 0 1 3");
        Check.is("one alone", Edge.fetched(0, "0,0,a").story(0), "0");
        Check.is("40 alone", Edge.forty().house(7) + " " + Edge.forty().story(39), "40 39");
        Newsfold y = Edge.fetched(0, "0,0,a b;1,0,c d;2,0,a b c d");
        Check.is("by one that came last", y.story(0) + "|" + y.house(7), "0 1 2|1");
    }

    private static void smallestNumber() {
        of("it is told by the smallest number in it.");
        Newsfold x = Edge.fetched(0, "0,0,c;1,0,a b;2,0,c d;3,0,b a;4,0,d c");
        String got = "";
        for (int i = 0; i < 5; i++) {
            got += x.ofItem(i, 7) + "/" + x.ofItem(i, 8) + " ";
        }
        Check.is("each ITEM", got, "0/1 1/2 2/2 1/2 2/2 ");
        x.apart(1, 3, true);
        Check.is("parted", x.ofItem(1, 7) + " " + x.ofItem(3, 7) + " " + x.ofItem(3, 8), "1 3 1");
        Newsfold y = Edge.fetched(0, "0,0,a b;1,0,a b;2,0,a b");
        y.apart(0, 1, true);
        y.apart(0, 2, true);
        Edge.readOnAll(y, 0);
        y.forget(0);
        Check.is("without the smallest one", y.ofItem(1, 7) + " " + y.ofItem(2, 7) + " " + y.house(7), "1 1 1");
    }

    private static void sixRules() {
        of("RULES are numbered from 0, at most 6 (as one goes, those behind it have numbers that are 1 less).");
        Newsfold x = six();
        Check.is("six", x.house(4) + " " + x.reasons(0), "6 0+1 1+2 2+3 3+4 4+5 5+6");
        Edge.state("a seventh", StoryEdges::six, y -> y.rule(0, 0, 1));
        x.unrule(5);
        Check.is("the last one goes", x.reasons(0), "0+1 1+2 2+3 3+4 4+5");
        x.unrule(0);
        Check.is("the first one goes", x.reasons(0), "0+2 1+3 2+4 3+5");
        x.unrule(2);
        Check.is("one between goes", x.reasons(0), "0+2 1+3 2+5");
        Check.is("there is room again", x.rule(0, 0, 7) + " " + x.rule(0, 0, 8) + " " + x.rule(0, 0, 9) + " " + x.reasons(0),
            "3 4 5 0+2 1+3 2+5 3+7 4+8 5+9");
    }

    static Newsfold six() {
        Newsfold x = Edge.fetched(0, "0,0,aa");
        for (int i = 1; i < 7; i++) {
            x.rule(0, 0, i);
        }
        return x;
    }

    /** The ITEMS that a RULE fits, by their REASONS. */
    private static String fit(Newsfold x, int kind, int value) {
        x.rule(kind, value, 1);
        String got = "";
        for (int i = 0; i < x.house(2); i++) {
            got += x.reasons(i).isEmpty() ? "" : "" + i;
        }
        x.unrule(0);
        return got;
    }

    private static void wordOfRule() {
        of("0 the TEXT has the WORD value (none above 63);");
        Newsfold x = Edge.fetched(0, "0,0,aa;1,0,hh;2,0,ab aa;3,0,aaa;4,0,ba;5,0,a;6,0,aa hh hh");
        Check.is("0, 1, 62, 63", fit(x, 0, 0) + " " + fit(x, 0, 1) + " " + fit(x, 0, 62) + " " + fit(x, 0, 63), "026 2  16");
        Check.is("64 and more, whatever they would be with MOD", fit(x, 0, 64) + fit(x, 0, 65) + fit(x, 0, 72) + fit(x, 0, 99), "");
    }

    private static void feedOfRule() {
        of("1 it is of the FEED value;");
        Newsfold x = Edge.rich();
        x.unrule(0);
        x.unrule(0);
        Check.is("0, 1, 2 (without ITEMS), 3 (no FEED), 99", fit(x, 1, 0, 6) + " " + fit(x, 1, 1, 6) + " " + fit(x, 1, 2, 6)
            + fit(x, 1, 3, 6) + fit(x, 1, 99, 6), "01234 5 ");
    }

    private static String fit(Newsfold x, int kind, int value, int items) {
        x.rule(kind, value, 1);
        String got = "";
        for (int i = 0; i < items; i++) {
            got += x.reasons(i).isEmpty() ? "" : "" + i;
        }
        x.unrule(0);
        return got;
    }

    private static void ageOfRule() {
        of("2 its AGE, CLOCK less TIME (perhaps below 0), is 60 * value or more;");
        Newsfold x = new Newsfold();
        x.feed(0);
        x.tick(600);
        Edge.refetched(x, "0,0,a;1,539,a;2,540,a;3,541,a;4,600,a;5,601,a;6,9999,a");
        Check.is("AGE 600, 61, 60, 59, 0, -1, below", fit(x, 2, 0) + " " + fit(x, 2, 1) + " " + fit(x, 2, 2) + " " + fit(x, 2, 10) + " "
            + fit(x, 2, 11), "01234 012 0 0 ");
        for (int i = 0; i < 9; i++) {
            x.tick(593);
        }
        Check.is("CLOCK 5937", x.house(3) + fit(x, 2, 99), 5937);
        x.tick(2);
        Check.is("AGE 5939", fit(x, 2, 99), "");
        x.tick(1);
        Check.is("AGE 5940", fit(x, 2, 99), "0");
    }

    private static void readOfRule() {
        of("3 it is READ on value or more DESKS;");
        Newsfold x = Edge.fetched(0, "0,0,a;1,0,a;2,0,a;3,0,a");
        for (int i = 0; i < 4; i++) {
            for (int desk = 0; desk < i; desk++) {
                x.mark(desk, i, 0, 1);
            }
        }
        x.mark(2, 0, 1, 1);
        Check.is("0 to 4, 99", fit(x, 3, 0) + " " + fit(x, 3, 1) + " " + fit(x, 3, 2) + " " + fit(x, 3, 3) + " " + fit(x, 3, 4)
            + fit(x, 3, 99), "0123 123 23 3 ");
    }

    private static void storyOfRule() {
        of("4 its STORY has value or more ITEMS.");
        Newsfold x = Edge.fetched(0, "0,0,a b;1,0,a b;2,0,c d;3,0,c d;4,0,c d;5,0,e");
        Check.is("0 to 4", fit(x, 4, 0) + " " + fit(x, 4, 1) + " " + fit(x, 4, 2) + " " + fit(x, 4, 3) + " " + fit(x, 4, 4),
            "012345 012345 01234 234 ");
        Newsfold y = chain();
        y.rule(4, 40, 1);
        y.rule(4, 41, 2);
        Check.is("40 and 41", y.reasons(39), "0+1");
    }

    private static void score() {
        of("the sum of the POINTS of RULES that fit.");
        Newsfold x = Edge.fetched(0, "0,0,aa;1,0,ab");
        Check.is("without RULES", x.ofItem(0, 9), 0);
        for (int i = 0; i < 6; i++) {
            x.rule(0, i % 2, 9);
        }
        Check.is("those that fit alone", x.ofItem(0, 9) + " " + x.ofItem(1, 9), "27 27");
        Check.is("54 and -54", scoreOfSix(9) + " " + scoreOfSix(-9), "54 -54");
        Newsfold y = Edge.fetched(0, "0,0,aa");
        y.rule(0, 0, 0);
        Check.is("POINTS 0 fit too", y.ofItem(0, 9) + " " + y.reasons(0), "0 0+0");
        y.rule(0, 0, -9);
        y.rule(0, 0, 4);
        Check.is("below 0", y.ofItem(0, 9) + " " + y.reasons(0), "-5 0+0 1-9 2+4");
    }

    private static int scoreOfSix(int points) {
        Newsfold x = Edge.fetched(0, "0,0,aa");
        for (int i = 0; i < 6; i++) {
            x.rule(1, 0, points);
        }
        return x.ofItem(0, 9);
    }

    private static void order() {
        of("by greater SCORE, then by greater TIME, then by smaller number.");
        Newsfold x = Edge.fetched(0, "0,5,aa;1,5,aa;2,6,aa;3,0,ab;4,9999,ac;5,0,ab;6,9999,aa");
        x.rule(0, 1, 1);
        x.rule(0, 2, -1);
        Check.is("all three", x.list(0, 0), "3 5 6 2 0 1 4");
        Check.is("40 with the same SCORE, two of each TIME", Edge.forty().list(2, 0), "19 39 18 38 17 37 16 36 15 35 14 34 13 33 12 32 11 31"
            + " 10 30 9 29 8 28 7 27 6 26 5 25 4 24 3 23 2 22 1 21 0 20");
        Check.is("one", Edge.fetched(0, "0,0,a").list(0, 0), "0");
    }

    private static void threeConditions() {
        of("QUESTIONS 0 to 2 have at most 3 CONDITIONS each:");
        Edge.indexes("QUESTION", Edge::rich, 0, 2, (x, n) -> x.ask(n, 0, 0, false));
        Newsfold x = fullQuestions();
        Check.is("three each", x.house(10), 9);
        for (int question = 0; question < 3; question++) {
            int of = question;
            Edge.state("a fourth", StoryEdges::fullQuestions, y -> y.ask(of, 0, 0, false));
        }
        x.unask(1);
        Check.is("there is room again", x.ask(1, 0, 0, false) + " " + x.house(10), "1 7");
    }

    static Newsfold fullQuestions() {
        Newsfold x = Edge.fetched(0, "0,0,aa");
        for (int i = 0; i < 9; i++) {
            x.ask(i % 3, 0, i, true);
        }
        return x;
    }

    /** ITEMS that are so, and those that are so with NOT. */
    static String asked(Newsfold x, int desk, int kind, int value) {
        x.unask(1);
        x.ask(1, kind, value, false);
        String is = x.list(desk, 8);
        x.unask(1);
        x.ask(1, kind, value, true);
        String isNot = x.list(desk, 8);
        x.unask(1);
        return is + "|" + isNot;
    }

    /** ITEMS 0, 1 and 2; 0 is READ, 1 has STAR, FOLDER 4 and NOTE 9 on DESK 2. */
    private static Newsfold some() {
        Newsfold x = Edge.fetched(0, "0,2,aa a b;1,1,hh a b;2,0,ab aa");
        x.mark(2, 0, 0, 1);
        x.mark(2, 1, 1, 1);
        x.mark(2, 1, 2, 4);
        x.mark(2, 1, 3, 9);
        return x;
    }

    private static void perhapsNot() {
        of("a kind, a value, and perhaps a NOT.");
        Newsfold x = some();
        Check.is("each kind, with and without", asked(x, 2, 0, 0) + " " + asked(x, 2, 1, 0) + " " + asked(x, 2, 2, 1) + " "
            + asked(x, 2, 3, 1) + " " + asked(x, 2, 4, 1) + " " + asked(x, 2, 5, 4) + " " + asked(x, 2, 6, 9) + " " + asked(x, 2, 7, 2),
            "0 2|1 0 1 2| 0|1 2 1|0 2 |0 1 2 1|0 2 1|0 2 0 1|2");
    }

    private static void asOfRules() {
        of("0 and 1 as of RULES;");
        Newsfold x = some();
        Check.is("0, 63, 64, 99", asked(x, 0, 0, 0) + " " + asked(x, 0, 0, 63) + " " + asked(x, 0, 0, 64) + " " + asked(x, 0, 0, 99),
            "0 2|1 1|0 2 |0 1 2 |0 1 2");
        Check.is("FEED 0, 1, 99", asked(x, 0, 1, 0) + " " + asked(x, 0, 1, 1) + " " + asked(x, 0, 1, 99), "0 1 2| |0 1 2 |0 1 2");
    }

    private static void readIsValue() {
        of("2 the MARK READ is value;");
        Newsfold x = some();
        Check.is("0, 1, 2, 99", asked(x, 2, 2, 0) + " " + asked(x, 2, 2, 1) + " " + asked(x, 2, 2, 2) + " " + asked(x, 2, 2, 99),
            "1 2|0 0|1 2 |0 1 2 |0 1 2");
        Check.is("on another DESK", asked(x, 0, 2, 1), "|0 1 2");
    }

    private static void starIsValue() {
        of("3 STAR is value;");
        Newsfold x = some();
        Check.is("0, 1, 2, 99", asked(x, 2, 3, 0) + " " + asked(x, 2, 3, 1) + " " + asked(x, 2, 3, 2) + " " + asked(x, 2, 3, 99),
            "0 2|1 1|0 2 |0 1 2 |0 1 2");
    }

    private static void scoreOrMore() {
        of("4 SCORE is value or more;");
        Newsfold x = some();
        x.rule(0, 0, 2);
        x.rule(0, 63, -1);
        Check.is("SCORES 2, -1, 2: 0, 1, 2, 3, 99", asked(x, 2, 4, 0) + " " + asked(x, 2, 4, 1) + " " + asked(x, 2, 4, 2) + " "
            + asked(x, 2, 4, 3) + " " + asked(x, 2, 4, 99), "0 2|1 0 2|1 0 2|1 |0 2 1 |0 2 1");
    }

    private static void folderIsValue() {
        of("5 FOLDER is value;");
        Newsfold x = some();
        Check.is("0, 3, 4, 5, 99", asked(x, 2, 5, 0) + " " + asked(x, 2, 5, 3) + " " + asked(x, 2, 5, 4) + " " + asked(x, 2, 5, 5) + " "
            + asked(x, 2, 5, 99), "0 2|1 |0 1 2 1|0 2 |0 1 2 |0 1 2");
    }

    private static void noteIsValue() {
        of("6 NOTE is value;");
        Newsfold x = some();
        Check.is("0, 8, 9, 10, 99", asked(x, 2, 6, 0) + " " + asked(x, 2, 6, 8) + " " + asked(x, 2, 6, 9) + " " + asked(x, 2, 6, 10) + " "
            + asked(x, 2, 6, 99), "0 2|1 |0 1 2 1|0 2 |0 1 2 |0 1 2");
    }

    private static void storyOrMore() {
        of("7 its STORY has value or more ITEMS.");
        Newsfold x = some();
        Check.is("0, 1, 2, 3, 99", asked(x, 2, 7, 0) + " " + asked(x, 2, 7, 1) + " " + asked(x, 2, 7, 2) + " " + asked(x, 2, 7, 3) + " "
            + asked(x, 2, 7, 99), "0 1 2| 0 1 2| 0 1|2 |0 1 2 |0 1 2");
    }

    private static void eachCondition() {
        of("An ITEM FITS, if each CONDITION is so (with NOT: is not so).");
        Newsfold x = some();
        Check.is("no CONDITION: all", x.list(2, 7), "0 1 2");
        x.ask(0, 0, 0, false);
        Check.is("one", x.list(2, 7), "0 2");
        x.ask(0, 2, 1, true);
        Check.is("two", x.list(2, 7), "2");
        x.ask(0, 7, 2, false);
        Check.is("three", x.list(2, 7), "");
        x.unask(0);
        Check.is("no CONDITION any more: all", x.list(2, 7), "0 1 2");
        x.ask(0, 3, 1, true);
        x.ask(0, 3, 1, true);
        Check.is("twice the same", x.list(2, 7), "0 2");
        x.ask(0, 3, 1, false);
        Check.is("one and its NOT", x.list(2, 7), "");
    }

    private static void views() {
        Newsfold x = some();
        x.mark(2, 0, 2, 1);
        x.ask(0, 0, 0, false);
        x.ask(1, 0, 1, false);
        x.ask(2, 0, 63, false);
        of("0 all;");
        Check.is("VIEW 0", x.list(2, 0), "0 1 2");
        of("1 those that are not READ there;");
        Check.is("VIEW 1", x.list(2, 1) + "|" + x.list(0, 1), "1 2|0 1 2");
        of("2 those with STAR there;");
        Check.is("VIEW 2", x.list(2, 2) + "|" + x.list(0, 2), "1|");
        of("3 to 6 those with the FOLDER 1 to 4 there;");
        Check.is("VIEWS 3 to 6", x.list(2, 3) + "|" + x.list(2, 4) + "|" + x.list(2, 5) + "|" + x.list(2, 6) + "|" + x.list(0, 3), "0|||1|");
        for (int folder = 0; folder < 5; folder++) {
            x.mark(2, 0, 2, folder);
            x.mark(2, 1, 2, folder);
            String got = x.list(2, 3) + "/" + x.list(2, 4) + "/" + x.list(2, 5) + "/" + x.list(2, 6);
            Check.is("FOLDER " + folder, got.replace("0 1", "x"), folder == 0 ? "///" : "/".repeat(folder - 1) + "x" + "/".repeat(4 - folder));
        }
        of("7 to 9 those that FIT the QUESTION 0 to 2 there.");
        Check.is("VIEWS 7 to 9", x.list(2, 7) + "|" + x.list(2, 8) + "|" + x.list(2, 9), "0 2|2|1");
    }

    private static void listInOrder() {
        of("the ITEMS of a VIEW in ORDER.");
        Newsfold x = Edge.forty();
        x.mark(1, 39, 1, 1);
        x.mark(1, 0, 1, 1);
        x.mark(1, 19, 1, 1);
        Check.is("three of 40", x.list(1, 2), "19 39 0");
        x.rule(0, 0, 1);
        Check.is("by SCORE", x.list(1, 2), "0 19 39");
        x.upTo(1, 21);
        Check.is("the last of 40", x.list(1, 1), "20");
        x.upTo(1, 20);
        Check.is("none of 40", x.list(1, 1), "");
        Check.is("none of none", new Newsfold().list(0, 0), "");
    }
}
