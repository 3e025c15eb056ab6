/** Promises 29 to 40: MARKS, STEPS, LETTERS. */
final class DeskTests {
    private DeskTests() { }

    static void run() {
        mark();
        open();
        upTo();
        undo();
        undoAgainstOthers();
        marked();
        send();
        arrive();
        stamps();
        lose();
        ofLetter();
        known();
        unlike();
        ofDesk();
    }

    private static Newsfold three() {
        return Check.fetched("1,10,a;2,20,b;3,30,c");
    }

    private static void mark() {
        Newsfold x = three();
        int[] most = {1, 1, 4, 9};
        for (int what = 0; what < 4; what++) {
            int of = what;
            Check.is("mark " + what, x.mark(1, 0, what, most[what]), 0);
            Check.is("mark " + what + " again", x.mark(1, 0, what, most[what]), most[what]);
            Check.is("mark is there", x.marked(1, 0, what, false) + " " + x.marked(1, 0, what, true),
                most[what] + " " + (3 * (what + 1) + 1));
            Check.argument("mark too much", x, () -> x.mark(1, 0, of, most[of] + 1));
            Check.argument("mark too little", x, () -> x.mark(1, 0, of, -1));
        }
        Check.is("STEPS", x.ofDesk(1, 4) + " " + x.ofDesk(0, 4), "4 0");
        Check.is("mark back", x.mark(1, 0, 3, 0) + " " + x.ofDesk(1, 0), "9 5");
        Check.is("one STEP each", x.ofDesk(1, 4), 5);
        Check.index("mark DESK 3", x, () -> x.mark(3, 0, 4, 0));
        Check.index("mark DESK -1", x, () -> x.mark(-1, 0, 0, 0));
        Check.index("mark ITEM 3", x, () -> x.mark(0, 3, 0, 2));
        Check.index("mark ITEM -1", x, () -> x.mark(0, -1, 0, 0));
        Check.argument("mark what 4", x, () -> x.mark(0, 0, 4, 0));
        Check.argument("mark what -1", x, () -> x.mark(0, 0, -1, 0));
    }

    private static void open() {
        Newsfold x = Check.fetched("1,10,a;2,20,bb  a;3,30,c;4,40,d;,50,e");
        Check.is("open", x.open(2, 1), "0:2@20 bb a");
        Check.is("it is READ there", x.marked(2, 1, 0, false) + " " + x.marked(0, 1, 0, false), "1 0");
        Check.is("it is a STEP", x.ofDesk(2, 4) + " " + x.ofDesk(2, 0), "1 1");
        x.open(2, 1);
        Check.is("once is enough", x.ofDesk(2, 4) + " " + x.shown(), "1 1");
        x.open(0, 0);
        x.open(1, 1);
        Check.is("the last one of SHOWN", x.shown(), "0 1");
        x.open(0, 2);
        x.open(0, 3);
        Check.is("four of them", x.shown(), "0 1 2 3");
        Check.is("open without NAME", x.open(0, 4), "0:105@50 e");
        Check.is("the first one goes", x.shown(), "1 2 3 4");
        Check.index("open DESK 3", x, () -> x.open(3, 0));
        Check.index("open DESK -1", x, () -> x.open(-1, 0));
        Check.index("open ITEM 5", x, () -> x.open(0, 5));
    }

    private static void upTo() {
        Newsfold x = Check.fetched("1,10,a;2,20,b;3,30,c;4,40,d;5,50,e");
        x.mark(0, 3, 0, 1);
        Check.is("upTo", x.upTo(0, 2), 2);
        Check.is("those ahead and this", x.list(0, 1) + "|" + x.list(1, 1), "1 0|4 3 2 1 0");
        Check.is("in that order", x.marked(0, 4, 0, true) + " " + x.marked(0, 2, 0, true) + " " + x.marked(0, 3, 0, true), "6 9 3");
        Check.is("one STEP", x.ofDesk(0, 4), 2);
        Check.is("upTo what is READ", x.upTo(0, 2) + " " + x.ofDesk(0, 4), "0 2");
        Check.is("undone at once", x.undo(0) + " " + x.list(0, 1), "2 4 2 1 0");
        Newsfold y = Check.fetched("1,10,a;2,20,b;3,30,c");
        y.rule(3, 1, -5);
        Check.is("the LIST as it was ahead", y.upTo(2, 0), 3);
        Check.is("as READ changed SCORES", y.marked(2, 2, 0, true) + " " + y.marked(2, 1, 0, true) + " " + y.marked(2, 0, 0, true), "5 8 11");
        Check.index("upTo DESK 3", y, () -> y.upTo(3, 0));
        Check.index("upTo ITEM 3", y, () -> y.upTo(0, 3));
        Check.index("upTo ITEM -1", y, () -> y.upTo(0, -1));
    }

    private static void undo() {
        Newsfold x = three();
        Check.state("undo without a STEP", x, () -> x.undo(0));
        Check.index("undo(3)", x, () -> x.undo(3));
        Check.index("undo(-1)", x, () -> x.undo(-1));
        for (int value = 1; value < 8; value++) {
            x.mark(0, 0, 3, value);
        }
        Check.is("five STEPS are kept", x.ofDesk(0, 4), 5);
        Check.state("of that DESK alone", x, () -> x.undo(1));
        Check.is("undo", x.undo(0) + " " + x.marked(0, 0, 3, false) + " " + x.marked(0, 0, 3, true), "1 6 24");
        Check.is("it is no STEP", x.ofDesk(0, 4) + " " + x.ofDesk(0, 0), "4 8");
        Check.is("the STAMP is another one now", x.undo(0) + " " + x.marked(0, 0, 3, false), "0 6");
        Check.is("it is kept no more", x.ofDesk(0, 4), 3);
        x.mark(0, 1, 1, 1);
        Check.is("a new STEP is the last one", x.undo(0) + " " + x.marked(0, 1, 1, false), "1 0");
        Check.is("three left", x.undo(0) + x.undo(0) + x.undo(0), 0);
        Check.state("none left", x, () -> x.undo(0));
        x.upTo(1, 0);
        x.mark(1, 1, 0, 0);
        x.undo(1);
        Check.is("those alone that nothing came upon", x.undo(1) + " " + x.list(1, 1), "2 2 0");
        Check.is("in the order of its ACTS", x.marked(1, 2, 0, true) + " " + x.marked(1, 0, 0, true), "19 22");
    }

    private static void undoAgainstOthers() {
        Newsfold x = three();
        x.tick(30);
        x.mark(0, 0, 3, 4);
        x.send(0, 1);
        x.arrive(0, false);
        x.mark(1, 0, 3, 7);
        x.send(1, 0);
        x.arrive(0, false);
        Check.is("what another DESK changed stays", x.undo(0) + " " + x.marked(0, 0, 3, false), "0 7");
        Check.is("undo goes back to what a LETTER brought", x.undo(1) + " " + x.marked(1, 0, 3, false), "1 4");
        x.upTo(0, 0);
        x.mark(0, 1, 0, 0);
        x.mark(0, 1, 0, 1);
        for (int d = 1; d < 3; d++) {
            x.mark(d, 2, 0, 1);
        }
        x.forget(0);
        Check.is("a forgotten ITEM is left out", x.undo(0) + " " + x.undo(0) + " " + x.undo(0), "1 0 1");
        Check.is("the other ones are as before", x.list(0, 1), "1 0");
    }

    private static void marked() {
        Newsfold x = three();
        x.mark(2, 1, 2, 3);
        Check.is("value", x.marked(2, 1, 2, false), 3);
        Check.is("STAMP", x.marked(2, 1, 2, true), 5);
        Check.is("neither", x.marked(2, 1, 3, false) + x.marked(2, 1, 3, true) + x.marked(1, 1, 2, true), 0);
        Check.index("marked DESK 3", x, () -> x.marked(3, 0, 4, true));
        Check.index("marked ITEM 3", x, () -> x.marked(0, 3, 0, true));
        Check.index("marked ITEM -1", x, () -> x.marked(0, -1, 0, false));
        Check.argument("marked 4", x, () -> x.marked(0, 0, 4, true));
        Check.argument("marked -1", x, () -> x.marked(0, 0, -1, false));
    }

    private static void send() {
        Newsfold x = three();
        Check.is("send without MARKS", x.send(0, 1), 0);
        x.mark(0, 0, 0, 1);
        x.mark(0, 1, 3, 5);
        Check.is("send two", x.send(0, 1), 2);
        Check.is("sending changes no KNOWN", x.send(0, 1) + " " + x.known(0, 1, 0) + " " + x.house(5), "2 0 3");
        x.arrive(1, false);
        Check.is("the sender does not know yet", x.send(0, 1), 2);
        Check.is("the receiver knows", x.send(1, 0), 0);
        x.arrive(3, false);
        Check.is("the sender knows now", x.send(0, 1) + " " + x.known(0, 1, 0), "0 2");
        Check.is("the third DESK does not", x.send(0, 2), 2);
        x.mark(0, 0, 0, 0);
        Check.is("a value of 0 is sent with its STAMP", x.send(0, 1), 1);
        Check.index("send(3, 3)", x, () -> x.send(3, 3));
        Check.index("send(0, -1)", x, () -> x.send(0, -1));
        Check.index("send(-1, 0)", x, () -> x.send(-1, 0));
        Check.argument("send(1, 1)", x, () -> x.send(1, 1));
        x.send(0, 1);
        x.send(0, 1);
        Check.is("eight", x.house(5), 8);
        Check.state("a ninth", x, () -> x.send(0, 1));
        Check.argument("a ninth to itself", x, () -> x.send(1, 1));
        x.mark(0, 0, 0, 1);
        x.arrive(7, false);
        Check.is("a LETTER stays as it was written", x.marked(1, 0, 0, false), 0);
    }

    private static void arrive() {
        Newsfold x = three();
        Check.index("arrive without LETTERS", x, () -> x.arrive(0, true));
        x.mark(0, 0, 0, 1);
        x.send(0, 1);
        x.mark(0, 1, 1, 1);
        x.send(0, 1);
        Check.is("the later one first", x.arrive(1, false), 2);
        Check.is("off the WAY", x.house(5), 1);
        Check.is("the earlier one brings nothing more", x.arrive(0, true) + " " + x.house(5), "0 1");
        Check.is("it may come again", x.arrive(0, false) + " " + x.house(5), "0 0");
        Check.is("values came", x.marked(1, 0, 0, false) + " " + x.marked(1, 1, 1, true), "1 6");
        Check.is("they are no STEP and no COUNT of its own", x.ofDesk(1, 4) + " " + x.known(1, 1, 1), "0 0");
        Check.is("COUNT and ROW", x.ofDesk(1, 0) + " " + x.known(1, 1, 0) + " " + x.known(1, 0, 0), "2 2 2");
        x.mark(1, 2, 0, 1);
        Check.is("the next ACT counts on", x.marked(1, 2, 0, true) + " " + x.known(1, 1, 1), "10 3");
        Check.index("arrive(-1)", x, () -> x.arrive(-1, true));
        Check.index("arrive(0)", x, () -> x.arrive(0, false));
        x.send(1, 2);
        x.tick(600);
        for (int d = 0; d < 3; d++) {
            x.mark(d, 0, 0, 1);
        }
        x.forget(0);
        Check.is("a forgotten ITEM takes no MARK", x.arrive(0, false) + " " + x.known(2, 1, 1), "2 3");
        Check.is("ROW goes on", x.known(2, 2, 0) + " " + x.known(2, 2, 1) + " " + x.known(2, 2, 2), "2 3 1");
    }

    private static void stamps() {
        Newsfold x = three();
        x.mark(0, 0, 3, 1);
        x.mark(1, 0, 3, 2);
        x.send(0, 1);
        x.send(1, 0);
        Check.is("the smaller STAMP loses", x.arrive(0, false) + " " + x.marked(1, 0, 3, false), "0 2");
        Check.is("the greater STAMP wins", x.arrive(0, false) + " " + x.marked(0, 0, 3, false), "1 2");
        Check.is("ROW of the loser too", x.known(1, 1, 0) + " " + x.known(0, 0, 1), "1 1");
        Check.is("all agree", x.isSound(), true);
        x.send(0, 2);
        Check.is("what it has by others goes on", x.arrive(0, false) + " " + x.known(2, 0, 1), "1 1");
    }

    private static void lose() {
        Newsfold x = three();
        Check.index("lose without LETTERS", x, () -> x.lose(0));
        x.send(0, 1);
        x.send(1, 2);
        x.send(2, 0);
        Check.is("lose", x.lose(1), 2);
        Check.is("the others move up", x.ofLetter(0, 0) + " " + x.ofLetter(1, 0), "0 2");
        Check.index("lose(2)", x, () -> x.lose(2));
        Check.index("lose(-1)", x, () -> x.lose(-1));
        x.mark(0, 0, 0, 1);
        x.send(0, 2);
        Check.is("lose the first one", x.lose(0) + " " + x.ofLetter(1, 2), "2 1");
        Check.is("lose all", x.lose(1) + " " + x.lose(0), "1 0");
        Check.is("a new one", x.send(0, 1) + " " + x.ofLetter(0, 1), "1 1");
    }

    private static void ofLetter() {
        Newsfold x = three();
        x.mark(0, 0, 0, 1);
        x.mark(0, 1, 0, 1);
        x.send(0, 2);
        x.arrive(0, false);
        x.mark(2, 2, 0, 1);
        x.send(2, 1);
        x.mark(2, 2, 1, 1);
        int[] due = {2, 1, 3, 2, 0, 3};
        for (int what = 0; what < due.length; what++) {
            Check.is("ofLetter(0, " + what + ")", x.ofLetter(0, what), due[what]);
        }
        Check.index("ofLetter(1, 6)", x, () -> x.ofLetter(1, 6));
        Check.index("ofLetter(-1, 0)", x, () -> x.ofLetter(-1, 0));
        Check.argument("ofLetter(0, 6)", x, () -> x.ofLetter(0, 6));
        Check.argument("ofLetter(0, -1)", x, () -> x.ofLetter(0, -1));
    }

    private static void known() {
        Newsfold x = three();
        x.mark(0, 0, 0, 1);
        x.send(0, 1);
        x.arrive(0, false);
        x.mark(1, 0, 1, 1);
        x.send(1, 2);
        x.arrive(0, false);
        String all = "";
        for (int desk = 0; desk < 3; desk++) {
            for (int other = 0; other < 3; other++) {
                for (int of = 0; of < 3; of++) {
                    all += x.known(desk, other, of);
                }
            }
        }
        Check.is("known of all", all, "100" + "000" + "000" + "100" + "120" + "000" + "000" + "120" + "120");
        Check.index("known(3, 0, 0)", x, () -> x.known(3, 0, 0));
        Check.index("known(0, 3, 0)", x, () -> x.known(0, 3, 0));
        Check.index("known(0, 0, 3)", x, () -> x.known(0, 0, 3));
        Check.index("known(-1, 0, 0)", x, () -> x.known(-1, 0, 0));
        Check.index("known(0, -1, 0)", x, () -> x.known(0, -1, 0));
        Check.index("known(0, 0, -1)", x, () -> x.known(0, 0, -1));
    }

    private static void unlike() {
        Newsfold x = three();
        Check.is("unlike at first", x.unlike(), 0);
        x.mark(0, 0, 0, 1);
        x.mark(1, 0, 0, 1);
        Check.is("two of three", x.unlike(), 1);
        x.mark(2, 0, 0, 1);
        Check.is("all three, with other STAMPS", x.unlike(), 0);
        x.mark(1, 0, 3, 4);
        x.mark(2, 1, 3, 4);
        x.mark(0, 1, 2, 4);
        Check.is("three MARKS", x.unlike(), 3);
        x.tick(600);
        x.forget(0);
        Check.is("without the forgotten one", x.unlike(), 2);
    }

    private static void ofDesk() {
        Newsfold x = three();
        x.upTo(1, 1);
        x.mark(1, 0, 1, 1);
        x.mark(1, 0, 2, 4);
        x.mark(1, 1, 2, 1);
        x.mark(1, 2, 2, 1);
        x.zone(1, 60, 70);
        x.bar(0);
        x.tick(10);
        x.zone(1, 60, 71);
        x.tick(1);
        int[] due = {6, 2, 1, 3, 5, 2, 1, 60, 71, 1440};
        for (int what = 0; what < due.length; what++) {
            Check.is("ofDesk(1, " + what + ")", x.ofDesk(1, what), due[what]);
        }
        Check.is("the next minute", x.tick(1) + x.ofDesk(1, 9), 1439);
        for (int d = 0; d < 3; d++) {
            x.mark(d, 1, 0, 1);
        }
        x.tick(600);
        x.forget(0);
        Check.is("without the forgotten one", x.ofDesk(1, 1) + " " + x.ofDesk(1, 3), "1 2");
        Check.index("ofDesk(3, 10)", x, () -> x.ofDesk(3, 10));
        Check.index("ofDesk(-1, 0)", x, () -> x.ofDesk(-1, 0));
        Check.argument("ofDesk(0, 10)", x, () -> x.ofDesk(0, 10));
        Check.argument("ofDesk(0, -1)", x, () -> x.ofDesk(0, -1));
    }
}
