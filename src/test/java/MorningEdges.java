/** Each sentence of section 5 of the Description, and of promises 41 to 46, that names an edge: one method each. */
final class MorningEdges {
    private MorningEdges() { }

    static void run() {
        zoneAndMorning();
        barAtFirst();
        multiples();
        byNothingElse();
        ofWhichItems();
        inNoDigestBefore();
        threeDigests();
        fetchedFirst();
        old();
        storiesAsTheyAre();
        keptNoMore();
        whatGoes();
        whatStays();
        shownAtMost4();
        forgottenIsNotShown();
        nextMorning();
        zoneWhere();
        bar();
        nthDigest();
        digestText();
        morningWhere();
        howManyWent();
        forgetWhat();
        would();
        wouldWhat();
        shownText();
    }

    private static void of(String words) {
        Sentence.of(Sentence.DESCRIPTION, words);
    }

    private static void zoneAndMorning() {
        of("Each DESK has a ZONE (-720 to 840 minutes, 0 at first) and a MORNING (0 to 1439, 480 at first);");
        for (int desk = 0; desk < 3; desk++) {
            Newsfold x = new Newsfold();
            Check.is("at first", x.ofDesk(desk, 7) + " " + x.ofDesk(desk, 8), "0 480");
            x.zone(desk, -720, 0);
            Check.is("the least", x.ofDesk(desk, 7) + " " + x.ofDesk(desk, 8) + " " + x.ofDesk(desk, 9), "-720 0 720");
            x.zone(desk, 840, 1439);
            Check.is("the most", x.ofDesk(desk, 7) + " " + x.ofDesk(desk, 8) + " " + x.ofDesk(desk, 9), "840 1439 599");
            Check.is("of that DESK alone", x.ofDesk((desk + 1) % 3, 7) + " " + x.ofDesk((desk + 2) % 3, 8), "0 480");
        }
    }

    private static void barAtFirst() {
        of("BAR is 0 at first.");
        Newsfold x = Edge.fetched(0, "0,0,aa;1,0,ab;2,0,ac");
        x.rule(0, 1, -1);
        x.rule(0, 2, 1);
        x.zone(0, 0, 1);
        x.tick(1);
        Check.is("SCORE 0 is enough, -1 is not", x.house(9) + x.morning(0, 0), "01: 2 0");
    }

    private static int nextOf(int clock, int zone, int morning) {
        Newsfold x = new Newsfold();
        for (int i = 600; i <= clock; i += 600) {
            x.tick(600);
        }
        if (clock % 600 > 0) {
            x.tick(clock % 600);
        }
        int next = x.zone(1, zone, morning);
        int before = x.ofDesk(1, 5);
        for (int left = next - 1; left > 0; left -= 600) {
            x.tick(Math.min(600, left));
        }
        Check.is("not a minute ahead", x.ofDesk(1, 5) - before, 0);
        x.tick(1);
        Check.is("in just so many minutes", x.ofDesk(1, 5) - before, 1);
        Check.is("it is morning", x.ofDesk(1, 9) + " " + x.morning(1, 0), "1440 " + (clock + next) + ":");
        return next;
    }

    private static void multiples() {
        of("It is morning at a DESK, if CLOCK + ZONE - MORNING is a multiple of 1440.");
        Check.is("0", nextOf(0, 0, 1) + " " + nextOf(0, 0, 1439), "1 1439");
        Check.is("1440", nextOf(0, 0, 0) + " " + nextOf(0, 840, 0) + " " + nextOf(0, 1, 0), "1440 600 1439");
        Check.is("-1440", nextOf(0, -720, 721) + " " + nextOf(0, -720, 1439) + " " + nextOf(0, -720, 720), "1 719 1440");
        Check.is("many of them", nextOf(17280, 0, 0) + " " + nextOf(17279, 0, 0) + " " + nextOf(17281, 0, 0), "1440 1 1439");
        Newsfold x = new Newsfold();
        for (int i = 0; i < 33; i++) {
            x.tick(600);
        }
        x.tick(200);
        Check.is("14 mornings till 20000, the last one at 19200", x.ofDesk(0, 5) + x.morning(0, 0), "1419200:");
    }

    private static void byNothingElse() {
        of("As a minute has gone by, and it is morning there, a DIGEST is made there (by nothing else, not by zone() either):");
        Newsfold x = new Newsfold();
        x.zone(0, 0, 0);
        Check.is("zone() to a morning", x.ofDesk(0, 9) + " " + x.ofDesk(0, 5), "1440 0");
        x.tick(1);
        Check.is("the minute behind it", x.ofDesk(0, 5), 0);
        x.feed(0);
        x.zone(0, 0, 1);
        x.fetch(0);
        x.forget(0);
        x.knock();
        Check.is("fetch() and others", x.ofDesk(0, 5) + x.morning(0, 0), "0");
        x.zone(0, 0, 2);
        x.tick(1);
        Check.is("a minute", x.ofDesk(0, 5) + x.morning(0, 0), "12:");
        x.zone(0, 1, 3);
        x.zone(0, 0, 2);
        Check.is("not once more in the same minute", x.ofDesk(0, 5), 1);
        Edge.state("a minute that is refused", MorningEdges::at20000, y -> y.tick(1));
        Check.is("600 minutes, one morning", y600(), "1 0 0");
    }

    private static String y600() {
        Newsfold x = new Newsfold();
        x.zone(1, 0, 601);
        x.zone(2, 0, 0);
        x.tick(600);
        return x.ofDesk(0, 5) + " " + x.ofDesk(1, 5) + " " + x.ofDesk(2, 5);
    }

    /** The next minute would be a morning, but CLOCK is 20000. */
    private static Newsfold at20000() {
        Newsfold x = new Newsfold();
        for (int i = 0; i < 33; i++) {
            x.tick(600);
        }
        x.tick(200);
        x.zone(0, 0, 20001 % 1440);
        return x;
    }

    private static void ofWhichItems() {
        of("of all KEPT ITEMS that are not READ there, have a SCORE of BAR or more, and were in no DIGEST of this DESK, in ORDER (perhaps of none).");
        Newsfold x = Edge.fetched(0, "0,0,aa;1,0,ab;2,1,aa;3,0,ac;4,0,ad;5,0,aa");
        x.rule(0, 0, 2);
        x.rule(0, 1, 3);
        x.rule(0, 2, 1);
        x.bar(2);
        Edge.readOnAll(x, 5);
        x.mark(0, 0, 0, 1);
        x.mark(1, 2, 1, 1);
        x.forget(0);
        for (int desk = 0; desk < 3; desk++) {
            x.zone(desk, 0, 2);
        }
        x.tick(2);
        Check.is("READ there, BAR, BAR less 1, GONE", x.morning(0, 0) + "|" + x.morning(1, 0), "2: 1 2|2: 1 2 0");
        x.bar(54);
        x.zone(0, 0, 3);
        x.zone(1, 0, 3);
        x.tick(1);
        Check.is("of none", x.morning(0, 0) + "|" + x.ofDesk(0, 5) + " " + x.ofDesk(0, 6), "3:|2 2");
        x.bar(-54);
        x.zone(0, 0, 4);
        x.tick(1);
        Check.is("those that were below BAR", x.morning(0, 0), "4: 3 4");
        Check.is("without ITEMS", none(), "1:");
        Newsfold y = Edge.forty();
        y.zone(0, 0, 1);
        y.tick(1);
        Check.is("40", y.ofDesk(0, 6) + " " + y.morning(0, 0).equals("1: " + y.list(0, 0)), "40 true");
    }

    private static String none() {
        Newsfold x = new Newsfold();
        x.zone(0, 0, 1);
        x.tick(1);
        return x.morning(0, 0);
    }

    private static void inNoDigestBefore() {
        of("and were in no DIGEST of this DESK");
        Newsfold x = Edge.fetched(0, "0,0,a;1,0,b");
        for (int minute = 1; minute < 6; minute++) {
            x.zone(0, 0, minute);
            x.tick(1);
        }
        Check.is("not again, even when the DIGEST is not kept", x.morning(0, 0) + x.morning(0, 1) + x.morning(0, 2) + x.ofDesk(0, 6), "5:4:3:2");
        Edge.refetched(x, "0,900,h");
        x.zone(0, 0, 6);
        x.tick(1);
        Check.is("nor as it CHANGED", x.morning(0, 0) + x.ofItem(0, 4), "6:1");
        x.zone(1, 0, 7);
        x.tick(1);
        Check.is("another DESK", x.morning(1, 0), "7: 0 1");
        Newsfold y = Edge.fetched(0, "0,0,a");
        y.mark(0, 0, 0, 1);
        y.zone(0, 0, 1);
        y.tick(1);
        y.mark(0, 0, 0, 0);
        y.zone(0, 0, 2);
        y.tick(1);
        Check.is("one that was READ then", y.morning(0, 1) + y.morning(0, 0), "1:2: 0");
    }

    private static void threeDigests() {
        of("The last 3 DIGESTS of a DESK are kept.");
        Newsfold x = new Newsfold();
        for (int minute = 1; minute < 8; minute++) {
            x.zone(2, 0, minute);
            x.tick(1);
            String got = x.morning(2, 0) + x.morning(2, 1) + x.morning(2, 2) + x.morning(2, 3);
            String due = minute + ":" + (minute > 1 ? minute - 1 + ":" : "") + (minute > 2 ? minute - 2 + ":" : "");
            Check.is("behind " + minute, got + x.ofDesk(2, 5), due + minute);
        }
        Check.is("of that DESK", x.morning(0, 0) + x.morning(1, 0), "");
    }

    private static void fetchedFirst() {
        of("then DIGESTS are made, DESK by DESK.");
        Newsfold x = new Newsfold();
        x.feed(0);
        x.write(0, 1, 1, 1, -1, -1);
        for (int desk = 0; desk < 3; desk++) {
            x.zone(desk, 0, 1);
        }
        x.tick(1);
        Check.is("what came in that minute", x.morning(0, 0) + x.morning(1, 0) + x.morning(2, 0), "1: 01: 01: 0");
        Newsfold y = new Newsfold();
        y.feed(0);
        y.fetch(0);
        y.write(0, 1, 1, 1, -1, -1);
        y.zone(0, 0, 119);
        y.tick(120);
        Check.is("not what came in the next one", y.morning(0, 0) + y.house(2), "119:1");
        Newsfold z = Edge.fetched(0, "0,0,a;1,0,b");
        z.rule(2, 1, 5);
        z.bar(5);
        z.zone(0, 0, 60);
        z.zone(1, 0, 59);
        z.tick(60);
        Check.is("SCORES as they are in that minute", z.morning(1, 0) + z.morning(0, 0), "59:60: 0 1");
    }

    private static void old() {
        of("An ITEM is OLD by a number of minutes, if it is READ and without STAR on each DESK, and CLOCK less TIME is that number or more.");
        for (int desk = 0; desk < 3; desk++) {
            Newsfold x = Edge.fetched(0, "0,0,a");
            Edge.readOnAll(x, 0);
            x.mark(desk, 0, 0, 0);
            Check.is("not READ on one", x.would(0) + x.forget(0), "0");
            x.mark(desk, 0, 0, 1);
            x.mark(desk, 0, 1, 1);
            Check.is("STAR on one", x.would(0) + x.forget(0), "0");
            x.mark(desk, 0, 1, 0);
            x.mark(desk, 0, 2, 4);
            x.mark(desk, 0, 3, 9);
            Check.is("neither: FOLDER and NOTE do not matter", x.would(0) + " " + x.forget(0), "0 1");
        }
        Newsfold y = Edge.fetched(0, "0,0,a;1,99,b;2,100,c;3,101,d");
        y.tick(100);
        Edge.readOnAll(y, 0, 1, 2, 3);
        Check.is("0 more, 1 more, 0, below 0", y.would(100) + "|" + y.would(101) + "|" + y.would(1) + "|" + y.would(2) + "|" + y.would(0),
            "0||0 1|0|0 1 2");
        Check.is("9999", at9999(9999) + " " + at9999(9998), "1 0");
    }

    /** How many go by 9999 as CLOCK is that, of one with the TIME 0. */
    private static int at9999(int clock) {
        Newsfold x = Edge.fetched(0, "0,0,a");
        Edge.readOnAll(x, 0);
        for (int i = 0; i < 16; i++) {
            x.tick(600);
        }
        x.tick(clock - 9600);
        return x.forget(9999);
    }

    private static void storiesAsTheyAre() {
        of("all STORIES (as they are then) of which each ITEM is OLD go:");
        Newsfold x = Edge.fetched(0, "0,0,a b;1,5,a b;2,0,c");
        x.tick(4);
        Edge.readOnAll(x, 0, 1);
        Check.is("one of it is not OLD", x.would(0) + x.forget(0), "0");
        x.tick(1);
        Check.is("each is: not READ ones do not matter", x.would(0) + "|" + x.would(1) + "|" + x.forget(0) + x.house(1), "0 1||21");
        Newsfold y = Edge.fetched(0, "0,0,a b;1,0,a b;2,0,c d;3,0,c d;4,0,e");
        Edge.readOnAll(y, 0, 1, 3, 4);
        Check.is("several", y.would(0) + "|" + y.forget(0) + y.list(0, 0), "0 1 4|32 3");
        Newsfold z = Edge.fetched(0, "0,0,a b;1,0,a b;2,0,a b;3,0,a");
        Edge.readOnAll(z, 0, 3);
        Check.is("not as they are behind it", z.forget(0) + " " + z.story(1) + "|" + z.would(0), "2 1 2|");
        Newsfold v = Edge.fetched(0, "0,0,a;1,0,a b;2,0,a b;3,0,a b");
        Edge.readOnAll(v, 0, 1);
        Check.is("nor as they are between", v.would(0) + "|" + v.forget(0) + v.story(2), "0 1|22 3");
        Newsfold u = Edge.fetched(0, "0,0,a b;1,0,a b;2,0,c;3,0,d e;4,0,e d");
        Edge.readOnAll(u, 0, 2, 4);
        Check.is("one goes, two stay with one that is not OLD", u.would(0) + "|" + u.forget(0) + u.list(0, 0), "2|10 1 3 4");
        Newsfold w = StoryEdges.chain();
        for (int desk = 0; desk < 3; desk++) {
            w.upTo(desk, 38);
        }
        w.tick(600);
        w.tick(120);
        w.mark(1, 0, 1, 1);
        Check.is("one of 40 is not OLD", w.forget(0), 0);
        w.mark(1, 0, 1, 0);
        w.mark(2, 39, 1, 1);
        Check.is("the last of 40 is not OLD", w.would(0) + w.forget(0), "0");
        w.mark(2, 39, 1, 0);
        Check.is("all of 40", w.forget(0) + " " + w.house(1) + w.house(7) + w.list(0, 0), "40 00");
    }

    private static void keptNoMore() {
        of("these ITEMS are KEPT no more;");
        Newsfold x = Edge.fetched(0, "0,0,aa;1,0,bb");
        Edge.readOnAll(x, 0);
        x.forget(0);
        Check.is("found nowhere", x.house(1) + x.list(0, 0) + "|" + x.search(0, -1) + "|" + x.find(0, 0) + " " + x.hours(-1, 0) + x.ofFeed(0, 4)
            + x.house(7), "11||-9 111");
        Check.is("it came once", x.house(2) + " " + x.ofFeed(0, 5), "2 2");
        Check.is("the other one stays", x.text(1) + x.story(1), "bb1");
        Edge.index("one asks for it", () -> gone(), y -> y.text(0));
    }

    private static Newsfold gone() {
        Newsfold x = Edge.fetched(0, "0,0,aa;1,0,bb");
        Edge.readOnAll(x, 0);
        x.forget(0);
        return x;
    }

    private static void whatGoes() {
        of("their MARKS, and pairs held APART with them, go");
        Newsfold x = Edge.fetched(0, "0,0,a;1,0,b;2,0,c");
        x.apart(0, 1, true);
        x.apart(2, 0, true);
        x.apart(1, 2, true);
        Edge.readOnAll(x, 0);
        x.mark(1, 0, 3, 9);
        x.mark(1, 0, 2, 4);
        Check.is("as it was", x.house(8) + " " + x.unlike() + " " + x.ofDesk(1, 1) + x.ofDesk(1, 3), "3 2 11");
        x.forget(0);
        Check.is("pairs", x.house(8) + " " + x.apart(1, 2, true), "1 1");
        Check.is("MARKS", x.unlike() + x.ofDesk(1, 1) + x.ofDesk(1, 3) + " " + x.send(1, 0) + x.ofLetter(0, 2), "0 00");
        Check.is("COUNT and ROW stay", x.ofDesk(1, 0) + " " + x.known(1, 1, 1), "3 3");
        Newsfold y = Edge.forty();
        y.apart(0, 5, true);
        y.apart(39, 5, true);
        y.apart(0, 39, true);
        Edge.readOnAll(y, 5);
        y.tick(600);
        Check.is("pairs with the first and the last of 40", y.forget(0) + " " + y.house(8) + " " + y.apart(0, 39, false) + " "
            + y.isSound(), "1 1 1 true");
        Check.is("sound", x.isSound(), true);
    }

    private static void whatStays() {
        of("(STEPS, LETTERS in the WAY, and DIGESTS stay as they were).");
        Newsfold x = Edge.fetched(0, "0,0,a;1,0,b");
        x.zone(0, 0, 1);
        x.tick(1);
        x.mark(0, 1, 3, 1);
        Edge.readOnAll(x, 0);
        x.send(0, 1);
        x.forget(0);
        Check.is("STEPS", x.ofDesk(0, 4) + " " + x.ofDesk(1, 4), "2 1");
        Check.is("LETTERS", x.house(5) + " " + x.ofLetter(0, 2) + " " + x.ofLetter(0, 3), "1 2 2");
        Check.is("DIGESTS", x.morning(0, 0) + " " + x.ofDesk(0, 6), "1: 0 1 2");
        Check.is("a STEP of what is GONE", x.undo(0) + " " + x.ofDesk(0, 0) + " " + x.ofDesk(0, 4), "0 2 1");
        Check.is("the one ahead of it", x.undo(0) + " " + x.marked(0, 1, 3, false), "1 0");
        Check.is("a MARK of what is GONE", x.arrive(0, false) + " " + x.known(1, 0, 0) + " " + x.ofDesk(1, 1), "1 2 0");
        Check.is("sound", x.isSound(), true);
    }

    private static void shownAtMost4() {
        of("the ITEMS that were opened last, each once, the one opened longest ago first, at most 4 (the first one goes);");
        Newsfold x = Edge.fetched(0, "0,0,a;1,0,b;2,0,c;3,0,d;4,0,e;5,0,f");
        String[] due = {"3", "3 1", "3 1 4", "3 1 4 0", "1 4 0 5", "4 0 5 2", "4 5 2 0", "4 5 2 0", "5 2 0 4"};
        int[] opened = {3, 1, 4, 0, 5, 2, 0, 0, 4};
        Check.is("none", x.shown(), "");
        for (int i = 0; i < opened.length; i++) {
            x.open(i % 3, opened[i]);
            Check.is("behind " + (i + 1), x.shown(), due[i]);
        }
        x.mark(0, 3, 0, 1);
        x.upTo(1, 5);
        x.undo(1);
        Check.is("READ alone is not opened", x.shown(), "5 2 0 4");
    }

    private static void forgottenIsNotShown() {
        of("a forgotten one goes.");
        Newsfold x = Edge.fetched(0, "0,0,a;1,0,b;2,0,c;3,0,d;4,0,e");
        for (int i = 0; i < 5; i++) {
            x.open(0, i);
        }
        Edge.readOnAll(x, 2);
        x.forget(0);
        Check.is("three are left, none comes back", x.shown(), "1 3 4");
        x.open(0, 1);
        x.open(0, 0);
        Check.is("there is room for one", x.shown(), "3 4 1 0");
        Edge.readOnAll(x, 0, 1, 3, 4);
        x.forget(0);
        Check.is("all are forgotten", x.shown() + x.house(1), "0");
    }

    private static void nextMorning() {
        Sentence.of(41, "Returns in how many minutes it is morning there next, as of ofDesk().");
        Newsfold x = new Newsfold();
        Check.is("1440, 1, 1439", x.zone(0, 0, 0) + " " + x.zone(0, 0, 1) + " " + x.zone(0, 1, 0), "1440 1 1439");
        Check.is("as of ofDesk()", x.ofDesk(0, 9), 1439);
        Sentence.of(41, "Tells ZONE and MORNING of a DESK.");
        Check.is("both", x.ofDesk(0, 7) + " " + x.ofDesk(0, 8), "1 0");
    }

    private static void zoneWhere() {
        Sentence.of(41, "Throws `IndexOutOfBoundsException` if desk is not 0 to 2");
        Edge.indexes("zone of DESK", Edge::rich, 0, 2, (x, n) -> x.zone(n, 0, 0));
        Edge.index("ahead of a wrong ZONE and MORNING", Edge::rich, x -> x.zone(3, 841, 1440));
        Sentence.of(41, "Throws `IllegalArgumentException` if zone is not -720 to 840, or morning not 0 to 1439");
        Edge.arguments("ZONE", Edge::rich, -720, 840, (x, n) -> x.zone(0, n, 0));
        Edge.arguments("MORNING", Edge::rich, 0, 1439, (x, n) -> x.zone(0, 0, n));
        Edge.argument("a right ZONE with a wrong MORNING", Edge::rich, x -> x.zone(0, 5, 1440));
        Edge.argument("a right MORNING with a wrong ZONE", Edge::rich, x -> x.zone(0, -721, 5));
    }

    private static void bar() {
        Sentence.of(42, "Tells BAR.");
        Sentence.of(42, "Returns that before.");
        Newsfold x = new Newsfold();
        Check.is("0, 54, -54", x.bar(54) + " " + x.house(9) + " " + x.bar(-54) + " " + x.house(9) + " " + x.bar(0) + " " + x.bar(0),
            "0 54 54 -54 -54 0");
        Sentence.of(42, "Throws `IllegalArgumentException` if score is not -54 to 54");
        Edge.arguments("BAR", Edge::rich, -54, 54, Newsfold::bar);
        Newsfold y = Edge.fetched(0, "0,0,aa");
        for (int i = 0; i < 6; i++) {
            y.rule(1, 0, 9);
        }
        y.bar(54);
        y.zone(0, 0, 1);
        y.tick(1);
        Check.is("the greatest SCORE is BAR", y.morning(0, 0), "1: 0");
    }

    private static void nthDigest() {
        Sentence.of(43, "- `nth`: which DIGEST, from 0 on, the last one first");
        Newsfold x = new Newsfold();
        for (int minute = 1; minute < 4; minute++) {
            x.zone(0, 0, minute);
            x.tick(1);
        }
        Check.is("0, 1, 2", x.morning(0, 0) + x.morning(0, 1) + x.morning(0, 2), "3:2:1:");
    }

    private static void digestText() {
        Sentence.of(43, "Returns CLOCK as it was made, \":\", and its ITEMS, each with a blank ahead (\"480: 3 0\"); \"\" if not so many are kept.");
        Newsfold x = Edge.fetched(0, "0,0,a;1,0,b;2,0,c;3,9,d");
        x.mark(0, 1, 0, 1);
        x.mark(0, 2, 0, 1);
        x.tick(479);
        Check.is("none", x.morning(0, 0) + x.morning(0, 1), "");
        x.tick(1);
        Check.is("as it is written", x.morning(0, 0) + "|" + x.morning(0, 1) + x.morning(0, 2) + x.morning(0, 3), "480: 3 0|");
        Check.is("far behind", x.morning(0, 3) + x.morning(0, Integer.MAX_VALUE), "");
        x.tick(600);
        x.tick(600);
        x.mark(0, 3, 0, 1);
        Check.is("as it was made, whatever came later", x.morning(0, 0), "480: 3 0");
        Edge.asks("morning", Edge::rich, y -> y.morning(0, 0) + y.morning(1, 0) + y.morning(2, 0) + y.morning(0, 7));
    }

    private static void morningWhere() {
        Sentence.of(43, "Throws `IndexOutOfBoundsException` if desk is not 0 to 2");
        Edge.indexes("morning of DESK", Edge::rich, 0, 2, (x, n) -> x.morning(n, 0));
        Edge.index("ahead of a wrong nth", Edge::rich, x -> x.morning(-1, -1));
        Sentence.of(43, "Throws `IllegalArgumentException` if nth is below 0");
        Edge.argument("-1", Edge::rich, x -> x.morning(0, -1));
        Edge.argument("the least", Edge::rich, x -> x.morning(2, Integer.MIN_VALUE));
        Edge.argument("without DIGESTS", Newsfold::new, x -> x.morning(0, -1));
    }

    private static void howManyWent() {
        Sentence.of(44, "Returns how many ITEMS went.");
        Edge.leaves("none", Edge::rich, 0, x -> x.forget(0));
        Edge.leaves("none of none", Newsfold::new, 0, x -> x.forget(0));
        Newsfold x = Edge.forty();
        for (int desk = 0; desk < 3; desk++) {
            x.upTo(desk, 20);
        }
        x.tick(119);
        Check.is("40, as would() told", x.would(0).split(" ").length + " " + x.forget(0) + " " + x.house(1) + " " + x.forget(0), "40 40 0 0");
        Check.is("nothing is left", x.list(0, 0) + x.shown() + x.would(0) + x.unlike() + x.house(7) + x.ofDesk(0, 1), "000");
        Sentence.of(44, "Forgets.");
        Check.is("for ever", x.fetch(0) + " " + x.house(2) + " " + x.find(0, 39), "0 40 -9");
    }

    private static void forgetWhat() {
        Sentence.of(44, "Throws `IllegalArgumentException` if minutes is not 0 to 9999");
        Edge.arguments("forget by", MorningEdges::readWhole, 0, 9999, Newsfold::forget);
    }

    private static Newsfold readWhole() {
        Newsfold x = Edge.rich();
        for (int desk = 0; desk < 3; desk++) {
            x.upTo(desk, 4);
        }
        x.tick(600);
        return x;
    }

    private static void would() {
        Sentence.of(45, "Returns the ITEMS that forget() would take, by rising numbers, with a blank between two.");
        Newsfold x = Edge.fetched(0, "0,0,a;1,9,b;2,5,c");
        Check.is("none", x.would(0), "");
        Edge.readOnAll(x, 2, 1, 0);
        x.tick(10);
        Check.is("by rising numbers, whatever ORDER is", x.would(0) + "|" + x.list(0, 0), "0 1 2|1 2 0");
        Check.is("by the number", x.would(1) + "|" + x.would(2) + "|" + x.would(5) + "|" + x.would(6) + "|" + x.would(10) + "|" + x.would(11),
            "0 1 2|0 2|0 2|0|0|");
        Edge.asks("would", MorningEdges::readWhole, y -> y.would(0) + "|" + y.would(500));
    }

    private static void wouldWhat() {
        Sentence.of(45, "Throws `IllegalArgumentException` if minutes is not 0 to 9999");
        Edge.arguments("would by", MorningEdges::readWhole, 0, 9999, Newsfold::would);
    }

    private static void shownText() {
        Sentence.of(46, "Returns SHOWN, with a blank between two.");
        Newsfold x = Edge.forty();
        Check.is("none", x.shown(), "");
        x.open(0, 39);
        Check.is("one", x.shown(), "39");
        x.open(0, 0);
        x.open(1, 10);
        x.open(2, 9);
        Check.is("four", x.shown(), "39 0 10 9");
        Edge.asks("shown", Edge::rich, Newsfold::shown);
    }
}
