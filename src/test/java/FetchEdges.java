/** Each sentence of section 2 of the Description, and of promises 11 to 14, that names an edge: one method each. */
final class FetchEdges {
    private FetchEdges() { }

    static void run() {
        clockAtFirst();
        fortyItems();
        fortyEver();
        goneForEver();
        asTheyStand();
        nothingIsDone();
        becomesAnother();
        newer();
        changedOnceMore();
        changeIsASet();
        oneComes();
        noRoom();
        howManyCame();
        howOftenAnother();
        faultsOfThisFetch();
        halfOfGap();
        thriceOfGap();
        twiceOfGap();
        dueBehindGap();
        sixFetches();
        fetchWhat();
        newAndChanged();
        minutesGoBy();
        minutesWithin();
        clockWithin();
        howManyFetches();
        ofFeed();
        ofFeedWhat();
        nthFetch();
        fetchedText();
        nthBelow();
    }

    private static void of(String words) {
        Sentence.of(Sentence.DESCRIPTION, words);
    }

    private static void clockAtFirst() {
        of("CLOCK is 0 at first.");
        Newsfold x = Edge.fetched(0, "1,1,a");
        Check.is("CLOCK", new Newsfold().house(3) + " " + x.ofItem(0, 6) + " " + x.fetched(0), "0 0 0@0:1+0!0");
    }

    private static void fortyItems() {
        of("ITEMS are numbered from 0 as they come, at most 40 ever.");
        Newsfold x = Edge.forty();
        Check.is("40", x.house(2) + " " + x.house(1) + " " + x.fetched(0), "40 40 0@0:20+0!0");
        for (int i = 0; i < 40; i++) {
            Check.is("ITEM " + i, x.ofItem(i, 1) + " " + x.ofItem(i, 2) + " " + x.find(0, i), i + " " + (100 + i % 20) + " " + i);
        }
        Edge.index("none has the number 40", Edge::forty, y -> y.text(40));
        Check.is("a 41st", Edge.refetched(x, "40,1,a") + " " + x.house(2), "0 40");
        Check.is("none of it", x.find(0, 40), -1);
        Newsfold y = new Newsfold();
        y.feed(0);
        y.feed(0);
        Check.put(y, 0, "5,1,a;4,1,a");
        Check.put(y, 1, "3,1,a");
        Check.is("as they come", y.fetch(1) + y.fetch(0) + " " + y.ofItem(0, 1) + y.ofItem(1, 1) + y.ofItem(2, 1), "3 354");
    }

    private static void fortyEver() {
        of("at most 40 ever");
        Newsfold x = Edge.forty();
        for (int desk = 0; desk < 3; desk++) {
            x.upTo(desk, 0);
        }
        x.tick(600);
        int went = x.forget(0);
        Check.is("some went", went + " " + x.house(1) + " " + x.house(2), "39 1 40");
        Check.is("they leave no room", Edge.refetched(x, "60,1,a") + " " + x.fetched(0) + " " + x.house(2), "0 0@600:0+0!1 40");
    }

    private static void goneForEver() {
        of("then that NAME of that FEED is GONE for ever.");
        Newsfold x = gone();
        Check.is("GONE", x.find(0, 1) + " " + x.house(1), "-9 1");
        Check.is("with a greater TIME and TEXT, more than once", Edge.refetched(x, "1,9999,hh;1,9999,h h") + " " + x.find(0, 1), "0 -9");
        x.tick(600);
        Check.is("for ever", x.fetch(0) + " " + x.find(0, 1), "0 -9");
        x.feed(0);
        Check.put(x, 1, "1,0,a");
        Check.is("of that FEED alone", x.fetch(1) + " " + x.find(1, 1) + " " + x.find(0, 1), "1 2 -9");
        Newsfold y = Edge.fetched(0, ",0,a;2,0,b");
        Edge.readOnAll(y, 0);
        y.forget(0);
        Check.is("also a NAME by TEXT", Edge.refetched(y, ",500,a") + " " + y.find(0, 101), "0 -9");
    }

    /** ITEM 0, of NAME 1, is GONE; ITEM 1, of NAME 2, is KEPT. */
    private static Newsfold gone() {
        Newsfold x = Edge.fetched(0, "1,0,a;2,0,b");
        Edge.readOnAll(x, 0);
        x.forget(0);
        return x;
    }

    private static void asTheyStand() {
        of("ENTRY by ENTRY as they stand in PAGE:");
        Newsfold x = Edge.fetched(0, "9,1,c;8,1,b;9,2,a;7,1,a");
        Check.is("numbers", x.find(0, 9) + " " + x.find(0, 8) + " " + x.find(0, 7), "0 1 2");
        Check.is("the same NAME twice", x.fetched(0) + " " + x.text(0) + x.ofItem(0, 4), "0@0:3+1!0 a1");
        Check.is("another way round", Edge.fetched(0, "9,2,a;9,1,c").fetched(0), "0@0:1+0!0");
        Check.is("thrice", Edge.fetched(0, "9,1,a;9,1,b;9,2,a").fetched(0), "0@0:1+2!0");
    }

    private static void nothingIsDone() {
        of("if its NAME of this FEED is GONE, nothing is done.");
        Newsfold x = gone();
        int gap = x.ofFeed(0, 1);
        Check.is("no NEW, no CHANGED, no FAULT", Edge.refetched(x, "1,5,c") + x.fetched(0), "00@0:0+0!0");
        Check.is("it is an ENTRY all the same", x.ofFeed(0, 7) + " " + x.ofFeed(0, 8), "1 0");
        Check.is("GAP", x.ofFeed(0, 1), 2 * gap);
        Check.is("beside a FAULT it is an ENTRY", Edge.refetched(x, "1,5,c;:") + " " + x.ofFeed(0, 1), "0 " + 4 * gap);
        Newsfold y = Edge.forty();
        Edge.readOnAll(y, 0);
        y.tick(600);
        y.forget(0);
        Check.is("no FAULT behind 40 either", Edge.refetched(y, "0,9999,hh") + y.fetched(0), "00@600:0+0!0");
    }

    private static void becomesAnother() {
        of("If an ITEM has it, this becomes another one, if the ENTRY is NEWER:");
        Newsfold x = Edge.fetched(0, "1,50,b");
        x.mark(1, 0, 3, 5);
        x.tick(7);
        Check.is("it is the same ITEM", Edge.refetched(x, "1,51,a") + " " + x.house(2) + " " + x.find(0, 1), "1 1 0");
        Check.is("its MARKS and CLOCK as it came stay", x.marked(1, 0, 3, false) + " " + x.ofItem(0, 6), "5 0");
        Newsfold y = Edge.forty();
        Check.is("also behind 40", Edge.refetched(y, "39,9999,b") + " " + y.ofItem(39, 2) + y.fetched(0), "1 99990@0:0+1!0");
        Newsfold z = Edge.fetched(0, "1,1,a");
        z.feed(0);
        Check.put(z, 1, "1,2,b");
        Check.is("not that of another FEED", z.fetch(1) + " " + z.house(2) + z.text(0) + z.text(1), "1 2ab");
    }

    private static String next(String before, String entry) {
        Newsfold x = Edge.fetched(0, before);
        return Edge.refetched(x, entry) + " " + x.ofItem(0, 2) + x.text(0);
    }

    private static void newer() {
        of("its TIME is greater, or the same with a greater TEXT;");
        Check.is("all the same", next("1,50,b", "1,50,b"), "0 50b");
        Check.is("the same TIME, a greater TEXT", next("1,50,b", "1,50,c"), "1 50c");
        Check.is("the same TIME, a smaller TEXT", next("1,50,b", "1,50,a"), "0 50b");
        Check.is("a TIME greater by 1, a smaller TEXT", next("1,50,b", "1,51,a"), "1 51a");
        Check.is("a TIME greater by 1, the same TEXT", next("1,50,b", "1,51,b"), "1 51b");
        Check.is("a TIME less by 1, a greater TEXT", next("1,50,b", "1,49,c"), "0 50b");
        Check.is("from 0 to 9999", next("1,0,b", "1,9999,b") + "|" + next("1,9999,b", "1,0,b"), "1 9999b|0 9999b");
        Check.is("blanks that are not in the TEXT", next("1,50,a b", "1,50,  a   b "), "0 50a b");
    }

    private static void changedOnceMore() {
        of("then it has TIME and TEXT of the ENTRY, has CHANGED once more");
        Newsfold x = Edge.fetched(0, "1,0,a");
        Check.is("never", x.ofItem(0, 4) + " " + x.ofItem(0, 5), "0 0");
        for (int i = 1; i < 8; i++) {
            Edge.refetched(x, "1," + i + ",a");
            Check.is("once more", x.ofItem(0, 4) + " " + x.ofItem(0, 2), i + " " + i);
        }
        Check.is("not if it is not NEWER", x.fetch(0) + " " + x.ofItem(0, 4), "0 7");
        Edge.refetched(x, "1,8,c d e f g");
        Check.is("a TEXT of five WORDS", x.ofItem(0, 3) + x.text(0), "5c d e f g");
        Edge.refetched(x, "1,9,h");
        Check.is("then one of one WORD", x.ofItem(0, 3) + x.text(0) + x.common(0, 0), "1h1");
        Newsfold y = Edge.fetched(0, "0,0,aa bb;1,0,ab aa bb");
        y.rule(0, 0, 1);
        y.ask(0, 0, 9, false);
        Edge.refetched(y, "1,1,ac");
        Check.is("no WORD of the TEXT before is in it", y.search(0, -1) + y.search(1, -1) + y.reasons(1) + y.list(0, 7), "00");
        Check.is("nor joins it to another one", y.common(1, 0) + " " + y.common(0, 1) + " " + y.story(1), "0 0 1");
        Check.is("the new one is", y.search(2, -1), "1");
    }

    private static void changeIsASet() {
        of("its CHANGE is a set, of this time alone:");
        of("0 if the TIME is another one, 1 if the TEXT is.");
        Newsfold x = Edge.fetched(0, "1,50,b");
        Check.is("none", x.ofItem(0, 5), 0);
        Edge.refetched(x, "1,51,b");
        Check.is("TIME", x.ofItem(0, 5), 1);
        Edge.refetched(x, "1,51,c");
        Check.is("TEXT, and not the TIME before", x.ofItem(0, 5), 2);
        Edge.refetched(x, "1,52,a");
        Check.is("both", x.ofItem(0, 5), 3);
        x.fetch(0);
        Check.is("it stays", x.ofItem(0, 5), 3);
        Edge.refetched(x, "1,53,a");
        Check.is("TIME, and not the TEXT before", x.ofItem(0, 5), 1);
        Check.is("the last of two in one FETCH", Edge.refetched(x, "1,54,b;1,54,c") + " " + x.ofItem(0, 5), "2 2");
    }

    private static void oneComes() {
        of("If no ITEM has it, one comes;");
        Newsfold x = new Newsfold();
        x.feed(0);
        x.tick(33);
        Edge.refetched(x, "5,77,a b a");
        int[] due = {0, 5, 77, 3, 0, 0, 33, 0, 1, 0, 0};
        for (int what = 0; what < due.length; what++) {
            Check.is("one that came: ofItem(0, " + what + ")", x.ofItem(0, what), due[what]);
        }
        for (int what = 0; what < 4; what++) {
            Check.is("its MARKS", x.marked(0, 0, what, false) + x.marked(2, 0, what, true), 0);
        }
    }

    private static void noRoom() {
        of("but if 40 came before, none does, and that is a FAULT, too (the ENTRY is one all the same).");
        Newsfold x = Edge.forty();
        Check.is("the 41st, the 42nd", Edge.refetched(x, "40,1,a;41,1,a") + x.fetched(0), "00@0:0+0!2");
        Check.is("each time", x.fetch(0) + x.fetched(0) + " " + x.ofFeed(0, 6), "00@0:0+0!2 4");
        Check.is("an ENTRY: GAP is twice, not thrice", x.ofFeed(0, 1), 60);
        Check.is("beside other ones", Edge.refetched(x, "40,1,a;0,9999,a;:;39,1,a") + x.fetched(0), "10@0:0+1!2");
        Newsfold y = new Newsfold();
        y.feed(0);
        for (int k = 0; k < 2; k++) {
            Check.put(y, 0, "");
            for (int i = 0; i < 20 + k; i++) {
                y.write(0, k * 20 + i, 1, 0, -1, -1);
            }
            y.fetch(0);
        }
        Check.is("the 40th and the 41st in one FETCH", y.fetched(0) + " " + y.house(2), "0@0:20+0!1 40");
    }

    private static void howManyCame() {
        of("how many came;");
        Check.is("none, one, as many as a PAGE has", Edge.fetched(0, "").fetched(0) + Edge.fetched(0, "1,1,a").fetched(0)
            + Edge.forty().fetched(0), "0@0:0+0!0" + "0@0:1+0!0" + "0@0:20+0!0");
    }

    private static void howOftenAnother() {
        of("how often one became another one;");
        Newsfold x = Edge.fetched(0, "1,1,a;2,1,a");
        Check.is("one of them twice", Edge.refetched(x, "1,2,a;1,3,a;2,2,a") + x.fetched(0), "30@0:0+3!0");
        Check.is("not again", x.fetch(0) + x.fetched(0), "00@0:0+0!0");
        Check.is("there and back is not", Edge.refetched(x, "1,4,a;1,3,a") + x.fetched(0), "10@0:0+1!0");
    }

    private static void faultsOfThisFetch() {
        of("as told, all of this FETCH.");
        Newsfold x = Edge.fetched(0, ":;:;1,1,a");
        Check.is("two", x.fetched(0), "0@0:1+0!2");
        Check.is("one, not three", Edge.refetched(x, ":") + x.fetched(0), "00@0:0+0!1");
        Check.is("three in all FETCHES", x.ofFeed(0, 6), 3);
        Check.is("none", Edge.refetched(x, "") + x.fetched(0) + x.ofFeed(0, 6), "00@0:0+0!03");
        Newsfold y = Edge.forty();
        Check.is("those of reading and those of no room", Edge.refetched(y, ":;90,1,a;;1;,1,cd") + y.fetched(0), "00@0:0+0!4");
    }

    /** GAP behind a FETCH of a new FEED with that GAP and PAGE. */
    private static int gap(int before, String page) {
        Newsfold x = TextEdges.typed(new Newsfold(), "0:" + before);
        x.bring();
        Check.put(x, 0, page);
        x.fetch(0);
        Check.is("DUE", x.ofFeed(0, 2), x.ofFeed(0, 1));
        return x.ofFeed(0, 1);
    }

    private static void halfOfGap() {
        of("if NEW or CHANGED is above 0, GAP / 2 (rounded down), but at least 15;");
        int[] before = {960, 959, 61, 60, 33, 32, 31, 30, 29, 16, 15};
        int[] due = {480, 479, 30, 30, 16, 16, 15, 15, 15, 15, 15};
        for (int i = 0; i < before.length; i++) {
            Check.is("half of " + before[i], gap(before[i], "1,1,a"), due[i]);
        }
        Check.is("with FAULTS too", gap(60, ":;1,1,a;:"), 30);
        Newsfold x = Edge.fetched(0, "1,1,a");
        Check.is("CHANGED alone", Edge.refetched(x, "1,2,a") + " " + x.ofFeed(0, 1), "1 15");
        Newsfold y = TextEdges.typed(Edge.fetched(0, "1,1,a"), "0:200");
        y.bring();
        Check.put(y, 1, "1,1,a");
        Check.is("NEW alone, of that FEED alone", y.fetch(1) + " " + y.ofFeed(1, 1) + " " + y.ofFeed(0, 1), "1 100 30");
    }

    private static void thriceOfGap() {
        of("otherwise, if there are FAULTS and no ENTRY at all, 3 * GAP, but at most 960;");
        int[] before = {15, 60, 319, 320, 321, 480, 960};
        int[] due = {45, 180, 957, 960, 960, 960, 960};
        for (int i = 0; i < before.length; i++) {
            Check.is("thrice of " + before[i], gap(before[i], ":"), due[i]);
        }
        Check.is("many FAULTS", gap(60, ":;:;:;1,a"), 180);
        Newsfold x = Edge.fetched(0, "1,1,a");
        Check.is("an ENTRY of nothing new: not so", Edge.refetched(x, "1,1,a;:") + " " + x.ofFeed(0, 1), "0 60");
        Check.is("FAULTS in FORM 1", gapOfTags("<"), 180);
    }

    private static int gapOfTags(String page) {
        return Edge.fetched(1, page).ofFeed(0, 1);
    }

    private static void twiceOfGap() {
        of("otherwise 2 * GAP, but at most 480.");
        int[] before = {15, 60, 239, 240, 241, 480, 481, 960};
        int[] due = {30, 120, 478, 480, 480, 480, 480, 480};
        for (int i = 0; i < before.length; i++) {
            Check.is("twice of " + before[i], gap(before[i], ""), due[i]);
        }
        Check.is("no SIGN, empty PIECES, nothing but what lies outside", gap(60, "") + " " + gap(60, ";;") + " " + gapOfTags("a"),
            "120 120 120");
    }

    private static void dueBehindGap() {
        of("The FEED is DUE at CLOCK + GAP.");
        Newsfold x = new Newsfold();
        x.tick(100);
        x.feed(0);
        x.fetch(0);
        Check.is("with the GAP behind it", x.ofFeed(0, 1) + " " + x.ofFeed(0, 2), "120 220");
        x.tick(10);
        x.fetch(0);
        Check.is("from that CLOCK on", x.ofFeed(0, 1) + " " + x.ofFeed(0, 2), "240 350");
        Check.is("not a minute ahead", x.tick(239) + " " + x.tick(1) + " " + x.ofFeed(0, 2), "0 1 830");
    }

    private static void sixFetches() {
        of("The last 6 FETCHES (of all FEEDS together) are kept.");
        Newsfold x = new Newsfold();
        x.feed(0);
        x.feed(1);
        Check.is("none", x.fetched(0), "");
        for (int i = 0; i < 6; i++) {
            x.fetch(i % 2);
            if (i > 0) {
                x.tick(1);
            }
            Check.is("as many as were made", x.fetched(i) + "|" + x.fetched(i + 1), "0@0:0+0!0|");
        }
        Check.is("the sixth", x.fetched(5) + "|" + x.fetched(0), "0@0:0+0!0|1@4:0+0!0");
        x.fetch(0);
        Check.is("a seventh: the first goes", x.fetched(5) + "|" + x.fetched(0) + "|" + x.fetched(6), "1@0:0+0!0|0@5:0+0!0|");
        for (int i = 0; i < 20; i++) {
            x.fetch(1);
        }
        Check.is("27 of them", x.fetched(5) + "|" + x.fetched(6), "1@5:0+0!0|");
    }

    private static void fetchWhat() {
        Sentence.of(11, "Throws `IndexOutOfBoundsException` if there is no such FEED");
        Edge.indexes("fetch", Edge::rich, 0, 2, Newsfold::fetch);
        Edge.index("fetch without FEEDS", Newsfold::new, x -> x.fetch(0));
        Sentence.of(11, "FETCHES a FEED.");
        Newsfold x = Edge.rich();
        int other = x.ofFeed(0, 3);
        x.fetch(2);
        Check.is("that one alone, also if it is not DUE", x.ofFeed(2, 3) + " " + (x.ofFeed(0, 3) - other) + " " + x.fetched(0),
            "2 0 2@6:0+0!0");
    }

    private static void newAndChanged() {
        Sentence.of(11, "Returns NEW and CHANGED together.");
        Newsfold x = new Newsfold();
        x.feed(0);
        Check.is("none", x.fetch(0) + Edge.refetched(x, ":"), 0);
        Check.is("NEW alone", Edge.refetched(x, "1,1,a;2,1,a"), 2);
        Check.is("CHANGED alone", Edge.refetched(x, "1,2,a;2,2,a;1,3,a"), 3);
        Check.is("both, without FAULTS", Edge.refetched(x, "1,4,a;3,2,a;:"), 2);
    }

    private static void minutesGoBy() {
        Sentence.of(12, "Minutes go by.");
        of("In each minute that goes by CLOCK is one more;");
        Newsfold x = new Newsfold();
        x.tick(1);
        Check.is("one", x.house(3), 1);
        x.tick(600);
        Check.is("600 more", x.house(3), 601);
        of("then all FEEDS that are DUE at CLOCK or ahead of it are FETCHED, that which is DUE first ahead, of several by number;");
        Newsfold y = TextEdges.typed(new Newsfold(), "0:60;0:60;0:60");
        y.bring();
        y.tick(1);
        Check.is("of several by number", y.fetched(2) + y.fetched(1) + y.fetched(0), "0@1:0+0!0" + "1@1:0+0!0" + "2@1:0+0!0");
        Newsfold z = new Newsfold();
        z.feed(0);
        z.fetch(0);
        z.tick(120 - 1);
        z.feed(0);
        Check.is("a FEED that comes in the minute ahead", z.tick(1) + z.fetched(1) + z.fetched(0), "2" + "1@120:0+0!0" + "0@120:0+0!0");
        Newsfold w = Edge.fetched(0, "");
        Check.is("DUE a minute later: not yet", w.tick(119) + " " + w.tick(1), "0 1");
        Check.is("one that is late by a minute", lateByOne(), "0@61:0+0!0");
    }

    /** A FEED that is DUE at CLOCK as it is FETCHES in the next minute, and GAP counts from there. */
    private static String lateByOne() {
        Newsfold x = new Newsfold();
        x.tick(60);
        x.feed(0);
        x.tick(1);
        Check.is("DUE again", x.ofFeed(0, 2), 61 + 120);
        return x.fetched(0);
    }

    private static void minutesWithin() {
        Sentence.of(12, "Throws `IllegalArgumentException` if minutes is not 1 to 600");
        Edge.arguments("tick", Edge::rich, 1, 600, Newsfold::tick);
        Edge.argument("ahead of CLOCK", FetchEdges::at20000, x -> x.tick(601));
        Edge.argument("0 at the end of CLOCK", FetchEdges::at20000, x -> x.tick(0));
    }

    /** CLOCK is 20000, in 34 calls. */
    private static Newsfold at20000() {
        Newsfold x = at(19400);
        x.tick(600);
        return x;
    }

    private static Newsfold at(int clock) {
        Newsfold x = new Newsfold();
        x.feed(0);
        for (int i = 600; i <= clock; i += 600) {
            x.tick(600);
        }
        if (clock % 600 > 0) {
            x.tick(clock % 600);
        }
        return x;
    }

    private static void clockWithin() {
        Sentence.of(12, "Throws `IllegalStateException` if CLOCK would be above 20000");
        Check.is("20000", at20000().house(3), 20000);
        Edge.state("20001 by 600", () -> at(19401), x -> x.tick(600));
        Edge.state("20001 by 1", FetchEdges::at20000, x -> x.tick(1));
        Edge.state("20600", FetchEdges::at20000, x -> x.tick(600));
        Newsfold x = at(19401);
        x.tick(599);
        Check.is("just 599", x.house(3), 20000);
    }

    private static void howManyFetches() {
        Sentence.of(12, "Returns how many FETCHES were made.");
        Newsfold x = new Newsfold();
        Check.is("none without FEEDS", x.tick(600), 0);
        Check.type(x, "0:15;0:15;0:15;0:15;0:15");
        x.bring();
        Check.is("five in a minute", x.tick(1), 5);
        Check.is("as ofFeed() tells", x.ofFeed(0, 3) + x.ofFeed(4, 3), 2);
        Check.is("none till they are DUE", x.tick(29) + " " + x.tick(1), "0 5");
        Newsfold y = TextEdges.typed(new Newsfold(), "0:15");
        y.bring();
        Check.is("one FEED many times: at 1, 31, 91, 211, 451", y.tick(600) + " " + y.ofFeed(0, 2), "5 931");
        y.fetch(0);
        Check.is("fetch() is none of them", y.tick(1), 0);
    }

    private static void ofFeed() {
        Sentence.of(13, "4 how many ITEMS of it are KEPT, 5 of it came ever, 6 how many FAULTS in all its FETCHES,"
            + " 7 how many ENTRIES its PAGE has now, 8 how many FAULTS that has (without regard to room)");
        Newsfold x = Edge.forty();
        Check.put(x, 0, "40,1,a;1,1,a;:");
        Check.is("full", x.ofFeed(0, 4) + " " + x.ofFeed(0, 5) + " " + x.ofFeed(0, 6) + " " + x.ofFeed(0, 7) + " " + x.ofFeed(0, 8),
            "40 40 0 2 1");
        x.fetch(0);
        x.fetch(0);
        Check.is("FETCHED twice more", x.ofFeed(0, 3) + " " + x.ofFeed(0, 6) + " " + x.ofFeed(0, 8), "4 4 1");
        Newsfold y = gone();
        Check.is("one is GONE", y.ofFeed(0, 4) + " " + y.ofFeed(0, 5) + " " + y.ofFeed(0, 7), "1 2 2");
        y.feed(1);
        Check.is("nothing of another one", y.ofFeed(1, 3) + y.ofFeed(1, 4) + y.ofFeed(1, 5) + y.ofFeed(1, 6) + y.ofFeed(1, 7)
            + y.ofFeed(1, 8), 0);
        Sentence.of(13, "Returns that.");
        for (int what = 0; what < 9; what++) {
            int of = what;
            Edge.asks("ofFeed " + what, Edge::rich, z -> z.ofFeed(1, of));
        }
    }

    private static void ofFeedWhat() {
        Sentence.of(13, "Throws `IndexOutOfBoundsException` if there is no such FEED");
        Edge.indexes("ofFeed", Edge::rich, 0, 2, (x, n) -> x.ofFeed(n, 0));
        Edge.index("ofFeed without FEEDS", Newsfold::new, x -> x.ofFeed(0, 0));
        Edge.index("ahead of a wrong what", Edge::rich, x -> x.ofFeed(3, 9));
        Sentence.of(13, "Throws `IllegalArgumentException` if what is not 0 to 8");
        Edge.arguments("ofFeed what", Edge::rich, 0, 8, (x, n) -> x.ofFeed(0, n));
    }

    private static void nthFetch() {
        Sentence.of(14, "- `nth`: which FETCH, from 0 on, the last one first");
        Newsfold x = Edge.rich();
        Check.is("in three of them", x.fetched(0) + x.fetched(1) + x.fetched(2) + x.fetched(3), "2@1:0+0!0" + "1@1:2+0!1" + "0@1:5+0!1");
    }

    private static void fetchedText() {
        Sentence.of(14, "(\"0@60:2+0!1\"); \"\" if not so many are kept.");
        Newsfold x = new Newsfold();
        Check.is("none", x.fetched(0) + x.fetched(1) + x.fetched(Integer.MAX_VALUE), "");
        x.feed(0);
        x.tick(59);
        Check.put(x, 0, "1,1,a;2,1,b;:");
        x.tick(60);
        Check.is("the one of 119", x.fetched(0) + "|" + x.fetched(1), "0@1:0+0!0|");
        x.tick(3);
        Check.is("the one of 121, and how it is written", x.fetched(0) + "|" + x.fetched(2) + x.fetched(5), "0@121:2+0!1|");
        Edge.asks("fetched", Edge::rich, y -> y.fetched(0) + y.fetched(6) + y.fetched(Integer.MAX_VALUE));
    }

    private static void nthBelow() {
        Sentence.of(14, "Throws `IllegalArgumentException` if nth is below 0");
        Edge.argument("-1", Edge::rich, x -> x.fetched(-1));
        Edge.argument("the least", Edge::rich, x -> x.fetched(Integer.MIN_VALUE));
        Edge.argument("without a FETCH", Newsfold::new, x -> x.fetched(-1));
    }
}
