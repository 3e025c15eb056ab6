/** Promises 41 to 46: mornings, DIGESTS, forgetting, SHOWN. */
final class MorningTests {
    private MorningTests() { }

    static void run() {
        zone();
        bar();
        morning();
        digestsKept();
        forget();
        stories();
        would();
        shown();
    }

    private static void zone() {
        Newsfold x = new Newsfold();
        Check.is("zone at first", x.zone(0, 0, 480), 480);
        Check.is("zone now", x.zone(0, 0, 0), 1440);
        Check.is("zone in a minute", x.zone(0, 0, 1), 1);
        Check.is("zone a minute ago", x.zone(0, 1, 0), 1439);
        Check.is("zone -720", x.zone(1, -720, 1439), 719);
        Check.is("zone 840", x.zone(1, 840, 0), 600);
        Check.is("zone tells", x.ofDesk(1, 7) + " " + x.ofDesk(1, 8) + " " + x.ofDesk(1, 9), "840 0 600");
        Check.is("of that DESK alone", x.ofDesk(2, 7) + " " + x.ofDesk(2, 8), "0 480");
        x.tick(600);
        Check.is("by CLOCK", x.ofDesk(1, 9), 1440);
        Check.is("no DIGEST by zone()", x.zone(2, 0, 600) + x.ofDesk(2, 5), 1441);
        Check.index("zone(3, 841, 0)", x, () -> x.zone(3, 841, 0));
        Check.index("zone(-1, 0, 0)", x, () -> x.zone(-1, 0, 0));
        Check.argument("zone 841", x, () -> x.zone(0, 841, 0));
        Check.argument("zone -721", x, () -> x.zone(0, -721, 0));
        Check.argument("morning 1440", x, () -> x.zone(0, 0, 1440));
        Check.argument("morning -1", x, () -> x.zone(0, 0, -1));
    }

    private static void bar() {
        Newsfold x = new Newsfold();
        Check.is("bar at first", x.bar(54), 0);
        Check.is("bar", x.bar(-54), 54);
        Check.is("house(9)", x.house(9), -54);
        Check.argument("bar(55)", x, () -> x.bar(55));
        Check.argument("bar(-55)", x, () -> x.bar(-55));
    }

    private static void morning() {
        Newsfold x = Check.fetched("1,10,aa;2,20,bb;3,30,aa;4,40,b");
        x.rule(0, 0, 2);
        x.rule(0, 9, 1);
        x.bar(1);
        x.mark(0, 0, 0, 1);
        for (int d = 0; d < 3; d++) {
            x.zone(d, 0, 5);
        }
        x.tick(4);
        Check.is("not yet", x.morning(0, 0), "");
        x.tick(1);
        Check.is("not READ, of BAR or more, in ORDER", x.morning(0, 0), "5: 2 1");
        Check.is("by DESK", x.morning(1, 0), "5: 2 0 1");
        x.zone(0, 0, 6);
        x.mark(0, 0, 0, 0);
        x.bar(0);
        x.tick(1);
        Check.is("in no DIGEST before", x.morning(0, 0), "6: 0 3");
        Check.is("the one before", x.morning(0, 1), "5: 2 1");
        x.tick(600);
        x.tick(600);
        x.tick(238);
        Check.is("a day is not over", x.ofDesk(1, 5), 1);
        x.tick(1);
        Check.is("a day is over", x.morning(1, 0) + "|" + x.morning(0, 0), "1445: 3|6: 0 3");
        x.tick(1);
        Check.is("of none", x.morning(0, 0) + x.ofDesk(0, 6), "1446:4");
        Check.index("morning(3, -1)", x, () -> x.morning(3, -1));
        Check.index("morning(-1, 0)", x, () -> x.morning(-1, 0));
        Check.argument("morning(0, -1)", x, () -> x.morning(0, -1));
        Newsfold y = new Newsfold();
        y.feed(0);
        y.write(0, 1, 1, 1, -1, -1);
        y.zone(0, 0, 1);
        y.tick(1);
        Check.is("FEEDS are FETCHED first", y.morning(0, 0), "1: 0");
    }

    private static void digestsKept() {
        Newsfold x = Check.fetched("1,1,a;2,2,b;3,3,c;4,4,d");
        x.bar(1);
        x.rule(0, 0, 0);
        for (int k = 1; k < 5; k++) {
            x.zone(2, 0, k);
            x.tick(1);
        }
        Check.is("three are kept", x.morning(2, 2) + x.morning(2, 1) + x.morning(2, 0), "2:3:4:");
        Check.is("the fourth is not", x.morning(2, 3), "");
        Check.is("far behind", x.morning(2, Integer.MAX_VALUE), "");
        Check.is("made", x.ofDesk(2, 5) + " " + x.ofDesk(2, 6), "4 0");
        x.bar(0);
        x.zone(2, 0, 5);
        x.tick(1);
        Check.is("all in one", x.morning(2, 0), "5: 3 2 1 0");
        for (int k = 6; k < 9; k++) {
            x.zone(2, 0, k);
            x.tick(1);
        }
        Check.is("not again, even if it is not kept", x.morning(2, 0) + x.morning(2, 1) + x.morning(2, 2), "8:7:6:");
        Check.is("items in all of them", x.ofDesk(2, 6), 4);
        Check.is("sound", x.isSound(), true);
    }

    private static void readAll(Newsfold x, int item) {
        for (int d = 0; d < 3; d++) {
            x.mark(d, item, 0, 1);
        }
    }

    private static void forget() {
        Newsfold x = Check.fetched("1,0,a;2,0,b;3,2,c;4,0,d");
        x.tick(1);
        readAll(x, 0);
        readAll(x, 1);
        readAll(x, 2);
        x.mark(0, 3, 0, 1);
        x.mark(1, 3, 0, 1);
        x.mark(2, 1, 1, 1);
        Check.is("too young", x.forget(2), 0);
        Check.is("READ and without STAR on each DESK", x.would(1) + "|" + x.forget(1), "0|1");
        Check.is("kept no more", x.house(1) + " " + x.house(2) + " " + x.find(0, 1), "3 4 -9");
        Check.is("a TIME ahead is not OLD", x.forget(0), 0);
        x.tick(1);
        Check.is("AGE 0", x.forget(0) + " " + x.list(0, 0), "1 1 3");
        Check.argument("forget(-1)", x, () -> x.forget(-1));
        Check.argument("forget(10000)", x, () -> x.forget(10000));
        Check.is("forget(9999)", x.forget(9999), 0);
        x.mark(2, 1, 1, 0);
        x.mark(0, 1, 3, 9);
        x.send(0, 1);
        x.open(0, 1);
        Check.is("a NOTE does not matter", x.forget(0), 1);
        Check.is("LETTERS stay as they were", x.ofLetter(0, 2), 3);
        Check.is("MARKS are gone", x.send(0, 1), 1);
        Check.is("the STAMP is gone", x.undo(0), 0);
        Check.is("sound", x.isSound(), true);
    }

    private static void stories() {
        Newsfold x = Check.fetched("1,0,a b;2,5,a b c;3,0,b c;4,0,d");
        x.zone(0, 0, 5);
        x.tick(5);
        Check.is("one STORY", x.story(2), "0 1 2");
        readAll(x, 0);
        readAll(x, 1);
        readAll(x, 3);
        Check.is("each ITEM of it has to be OLD", x.would(0), "3");
        readAll(x, 2);
        Check.is("all of it", x.would(0), "0 1 2 3");
        Check.is("one of it is too young", x.would(1), "3");
        x.apart(0, 1, true);
        Check.is("parted by a hand", x.would(1), "0 3");
        x.mark(0, 1, 1, 1);
        Check.is("forget them", x.forget(0), 2);
        Check.is("STORIES as they were then", x.list(0, 0) + "|" + x.story(1), "1 2|1 2");
        Check.is("DIGESTS stay as they were", x.morning(0, 0), "5: 1 0 2 3");
        Check.is("pairs go", x.house(8), 0);
    }

    private static void would() {
        Newsfold x = Check.fetched("1,0,a;2,0,b");
        Check.is("would of none", x.would(0), "");
        readAll(x, 1);
        readAll(x, 0);
        Check.is("would", x.would(0) + "|" + x.would(0), "0 1|0 1");
        x.tick(10);
        Check.is("just so OLD", x.would(10) + "|" + x.would(11), "0 1|");
        Check.argument("would(-1)", x, () -> x.would(-1));
        Check.argument("would(10000)", x, () -> x.would(10000));
    }

    private static void shown() {
        Newsfold x = Check.fetched("1,0,a;2,0,b;3,0,c;4,0,d;5,0,e");
        Check.is("shown at first", x.shown(), "");
        for (int i = 0; i < 5; i++) {
            x.open(i % 3, i);
        }
        Check.is("shown", x.shown(), "1 2 3 4");
        x.open(0, 2);
        Check.is("each once", x.shown(), "1 3 4 2");
        readAll(x, 3);
        x.forget(0);
        Check.is("a forgotten one goes", x.shown(), "1 4 2");
        x.open(1, 0);
        x.mark(1, 0, 0, 0);
        Check.is("it is as it was opened", x.shown(), "1 4 2 0");
        x.mark(1, 1, 0, 0);
        x.upTo(1, 1);
        Check.is("READ alone is not opened", x.shown(), "1 4 2 0");
    }
}
