/** Each sentence of section 3 of the Description that names an edge: one method each. */
final class DeskEdges {
    private DeskEdges() { }

    static void run() {
        threeDesks();
        marksAtFirst();
        countAtFirst();
        acts();
        youngerStamps();
        rowAtFirst();
        ownRow();
        stepsIfAny();
        fiveSteps();
        keptNoMore();
        inTheOrderOfActs();
        stillThatStamp();
        knownAtFirst();
        whatALetterHas();
        rowOfTheSender();
        sendingChangesNoKnown();
        eightLetters();
        markByMark();
        rowAndKnownGrow();
        countGrows();
    }

    private static void of(String words) {
        Sentence.of(Sentence.DESCRIPTION, words);
    }

    /** ITEMS 0, 1 and 2, in no STORY together, with the TIMES 10, 20 and 30. */
    static Newsfold three() {
        return Edge.fetched(0, "1,10,a;2,20,b;3,30,c");
    }

    private static void threeDesks() {
        of("There are three DESKS, 0 to 2.");
        Edge.indexes("DESK", DeskEdges::three, 0, 2, (x, n) -> x.mark(n, 0, 0, 1));
        Newsfold x = three();
        for (int desk = 0; desk < 3; desk++) {
            x.mark(desk, desk, 3, desk + 1);
        }
        Check.is("each its own", x.marked(0, 0, 3, false) + "" + x.marked(1, 1, 3, false) + x.marked(2, 2, 3, false)
            + x.marked(0, 1, 3, false) + x.marked(1, 2, 3, false) + x.marked(2, 0, 3, false), "123000");
    }

    private static void marksAtFirst() {
        of("0 READ (0 or 1), 1 STAR (0 or 1), 2 FOLDER (0 to 4;");
        of("0 is none), 3 NOTE (0 to 9), all 0 at first, each with a STAMP, 0 at first.");
        Newsfold x = three();
        int[] most = {1, 1, 4, 9};
        for (int desk = 0; desk < 3; desk++) {
            for (int what = 0; what < 4; what++) {
                Check.is("at first", x.marked(desk, 2, what, false) + x.marked(desk, 2, what, true), 0);
            }
        }
        for (int what = 0; what < 4; what++) {
            int of = what;
            Edge.arguments("MARK " + what, DeskEdges::three, 0, most[what], (y, n) -> y.mark(0, 0, of, n));
            for (int value = 0; value <= most[what]; value++) {
                Check.is("each value", x.mark(1, 1, what, value) + " " + x.marked(1, 1, what, false), Math.max(0, value - 1) + " " + value);
            }
        }
        x.mark(0, 0, 2, 4);
        x.mark(0, 0, 2, 0);
        Check.is("FOLDER 0 is none", x.ofDesk(0, 3) + x.list(0, 3) + x.list(0, 6), "0");
        Newsfold y = Edge.forty();
        y.mark(2, 39, 3, 9);
        y.mark(2, 39, 0, 1);
        Check.is("the last MARK of the last ITEM", y.marked(2, 39, 3, false) + " " + y.marked(2, 39, 3, true) + " " + y.unlike(), "9 5 2");
    }

    private static void countAtFirst() {
        of("Each DESK has a COUNT, 0 at first.");
        Newsfold x = three();
        Check.is("at first", x.ofDesk(0, 0) + x.ofDesk(1, 0) + x.ofDesk(2, 0), 0);
        x.mark(1, 0, 0, 1);
        Check.is("of that DESK alone", x.ofDesk(0, 0) + " " + x.ofDesk(1, 0) + " " + x.ofDesk(2, 0), "0 1 0");
    }

    private static void acts() {
        of("COUNT is one more, and the STAMP of this MARK is 3 * COUNT, and the number of the DESK more.");
        for (int desk = 0; desk < 3; desk++) {
            Newsfold x = three();
            x.mark(desk, 0, 0, 1);
            Check.is("the first STAMP", x.marked(desk, 0, 0, true), 3 + desk);
            x.mark(desk, 0, 0, 0);
            Check.is("back to 0 is an ACT", x.marked(desk, 0, 0, true) + " " + x.ofDesk(desk, 0), (6 + desk) + " 2");
            x.mark(desk, 0, 0, 0);
            Check.is("the value that it has is none", x.marked(desk, 0, 0, true) + " " + x.ofDesk(desk, 0), (6 + desk) + " 2");
            Check.is("of that MARK alone", x.marked(desk, 0, 1, true) + x.marked(desk, 1, 0, true), 0);
        }
        Newsfold y = Edge.forty();
        for (int i = 0; i < 5; i++) {
            y.upTo(0, 0);
            y.upTo(0, 20);
            y.undo(0);
            y.undo(0);
        }
        Check.is("400 ACTS", y.ofDesk(0, 0) + " " + y.marked(0, 20, 0, true), "400 " + 3 * 361);
    }

    private static void youngerStamps() {
        of("a greater one is younger.)");
        Newsfold x = three();
        x.mark(0, 0, 3, 1);
        x.mark(1, 0, 3, 2);
        x.mark(2, 0, 3, 3);
        x.send(0, 1);
        x.send(2, 1);
        x.send(1, 0);
        Check.is("the same count, a smaller DESK", x.arrive(0, false) + " " + x.marked(1, 0, 3, false), "0 2");
        Check.is("the same count, a greater DESK", x.arrive(0, false) + " " + x.marked(1, 0, 3, false), "1 3");
        Newsfold y = three();
        y.mark(2, 0, 3, 9);
        y.mark(0, 0, 3, 8);
        y.mark(0, 0, 3, 7);
        y.send(0, 2);
        Check.is("a greater count, a smaller DESK", y.arrive(0, false) + " " + y.marked(2, 0, 3, false), "1 7");
    }

    private static String rows(Newsfold x) {
        String all = "";
        for (int desk = 0; desk < 3; desk++) {
            all += (desk > 0 ? " " : "") + x.known(desk, desk, 0) + x.known(desk, desk, 1) + x.known(desk, desk, 2);
        }
        return all;
    }

    private static void rowAtFirst() {
        of("three numbers, 0 at first;");
        Check.is("ROWS", rows(three()), "000 000 000");
    }

    private static void ownRow() {
        of("that of itself is COUNT as it was behind its last ACT (also one of undo()).");
        Newsfold x = three();
        x.mark(0, 0, 0, 1);
        x.mark(0, 0, 1, 1);
        Check.is("behind two", rows(x), "200 000 000");
        x.undo(0);
        Check.is("behind undo()", rows(x) + " " + x.ofDesk(0, 0), "300 000 000 3");
        x.send(0, 1);
        x.arrive(0, false);
        Check.is("a LETTER is no ACT: COUNT alone is another one", rows(x) + " " + x.ofDesk(1, 0), "300 300 000 3");
        x.mark(1, 2, 0, 1);
        Check.is("the next ACT", rows(x) + " " + x.ofDesk(1, 0), "300 340 000 4");
        x.mark(1, 2, 0, 1);
        Check.is("no ACT", rows(x), "300 340 000");
        x.mark(0, 2, 3, 1);
        x.mark(0, 2, 3, 2);
        x.undo(0);
        x.undo(0);
        Check.is("undo() without an ACT", rows(x) + " " + x.ofDesk(0, 0), "600 340 000 6");
    }

    private static void stepsIfAny() {
        of("the ACTS of one call of mark(), open() or upTo(), if there are any.");
        Newsfold x = three();
        x.mark(0, 0, 0, 0);
        Check.is("mark() of the value that it has", x.ofDesk(0, 4), 0);
        x.open(0, 2);
        x.open(0, 2);
        Check.is("open() of what is READ", x.ofDesk(0, 4), 1);
        x.upTo(0, 2);
        Check.is("upTo() of what is READ", x.ofDesk(0, 4), 1);
        x.upTo(0, 0);
        Check.is("upTo() of two", x.ofDesk(0, 4), 2);
        x.mark(0, 0, 3, 1);
        Check.is("mark()", x.ofDesk(0, 4) + " " + x.ofDesk(1, 4), "3 0");
        x.send(0, 1);
        x.arrive(0, false);
        Check.is("a LETTER is none", x.ofDesk(1, 4), 0);
        Edge.state("nor is it undone", () -> lettered(), y -> y.undo(1));
    }

    private static Newsfold lettered() {
        Newsfold x = three();
        x.mark(0, 0, 3, 1);
        x.send(0, 1);
        x.arrive(0, false);
        return x;
    }

    private static void fiveSteps() {
        of("The last 5 STEPS of a DESK are kept.");
        Newsfold x = three();
        for (int i = 1; i < 8; i++) {
            x.mark(0, 0, 3, i);
            x.mark(1, i % 3, 1, i % 2);
            Check.is("STEPS behind " + i, x.ofDesk(0, 4), Math.min(5, i));
        }
        for (int i = 0; i < 5; i++) {
            Check.is("the fifth too", x.undo(0) + " " + x.ofDesk(0, 4), (i == 0 ? 1 : 0) + " " + (4 - i));
        }
        Check.is("the first two are gone", Edge.answer(x, y -> y.undo(0)) + " " + x.marked(0, 0, 3, false),
            "throws.IllegalStateException 6");
        Newsfold z = three();
        int[] items = {0, 1, 2, 0, 1, 2, 0};
        for (int i = 0; i < 7; i++) {
            z.mark(0, items[i], i < 3 ? 0 : i < 6 ? 1 : 3, 1);
        }
        String got = "";
        for (int i = 0; i < 5; i++) {
            got += z.undo(0);
        }
        Check.is("the last five are undone, the first two stay", got + z.list(0, 1) + "|" + z.list(0, 2), "111112|");
        Newsfold y = Edge.forty();
        y.upTo(0, 0);
        y.mark(0, 39, 0, 0);
        y.undo(0);
        Check.is("a STEP of 39 ACTS, but for one that has another STAMP", y.undo(0) + " " + y.ofDesk(0, 4), "38 0");
        Newsfold w = Edge.forty();
        Check.is("a STEP of 40", w.upTo(2, 20) + " " + w.ofDesk(2, 4) + " " + w.undo(2) + " " + w.ofDesk(2, 1), "40 1 40 0");
    }

    private static void keptNoMore() {
        of("it is kept no more (also if nothing comes of it);");
        Newsfold x = three();
        x.mark(0, 0, 3, 1);
        x.mark(0, 0, 3, 2);
        Check.is("undone", x.undo(0) + " " + x.ofDesk(0, 4), "1 1");
        Check.is("nothing comes of it", x.undo(0) + " " + x.ofDesk(0, 4) + " " + x.marked(0, 0, 3, false), "0 0 1");
        Newsfold y = three();
        y.mark(0, 0, 3, 1);
        y.mark(0, 0, 3, 2);
        y.undo(0);
        y.undo(0);
        Check.is("no STEP more", Edge.answer(y, z -> z.undo(0)), "throws.IllegalStateException");
        y.mark(0, 1, 1, 1);
        Check.is("a new STEP behind that", y.ofDesk(0, 4) + " " + y.undo(0) + " " + y.marked(0, 1, 1, false), "1 1 0");
    }

    private static void inTheOrderOfActs() {
        of("MARK by MARK that it gave another value, in the order of its ACTS, of ITEMS that are KEPT:");
        Newsfold x = three();
        x.upTo(0, 0);
        Check.is("READ in that order", x.marked(0, 2, 0, true) + " " + x.marked(0, 1, 0, true) + " " + x.marked(0, 0, 0, true), "3 6 9");
        x.undo(0);
        Check.is("undone in that order", x.marked(0, 2, 0, true) + " " + x.marked(0, 1, 0, true) + " " + x.marked(0, 0, 0, true),
            "12 15 18");
        Newsfold y = three();
        y.tick(30);
        y.upTo(0, 0);
        y.mark(0, 1, 1, 1);
        y.mark(0, 1, 1, 0);
        Edge.readOnAll(y, 1);
        y.forget(0);
        Check.is("ITEM 1 is not KEPT", y.undo(0) + y.undo(0) + " " + y.undo(0) + " " + y.ofDesk(0, 1) + " " + y.ofDesk(0, 0), "0 2 0 7");
        Newsfold z = three();
        z.mark(0, 0, 0, 1);
        z.upTo(0, 0);
        Check.is("only what it gave another value", z.undo(0) + " " + z.list(0, 1), "2 2 1");
    }

    private static void stillThatStamp() {
        of("if the STAMP is still that of this ACT, it gets the value that it had ahead of it by a new ACT (this is no STEP).");
        Newsfold x = three();
        x.mark(0, 0, 3, 4);
        x.mark(0, 0, 3, 7);
        Check.is("the value ahead of it, not 0", x.undo(0) + " " + x.marked(0, 0, 3, false) + " " + x.marked(0, 0, 3, true), "1 4 9");
        Check.is("no STEP", x.ofDesk(0, 4), 1);
        Newsfold y = three();
        y.mark(0, 0, 3, 4);
        y.mark(1, 0, 3, 4);
        y.mark(1, 0, 2, 1);
        y.send(1, 0);
        y.arrive(0, false);
        Check.is("the same value with another STAMP", y.undo(0) + " " + y.marked(0, 0, 3, false) + " " + y.marked(0, 0, 3, true), "0 4 4");
        Newsfold z = three();
        z.mark(0, 0, 3, 4);
        z.send(0, 1);
        z.arrive(0, false);
        z.mark(1, 1, 3, 1);
        z.send(1, 0);
        z.arrive(0, false);
        Check.is("a LETTER that leaves it alone", z.undo(0) + " " + z.marked(0, 0, 3, false) + " " + z.marked(0, 0, 3, true), "1 0 9");
        z.send(0, 1);
        z.arrive(0, false);
        Check.is("the other DESK hears of that", z.marked(1, 0, 3, false) + " " + z.unlike(), "0 1");
    }

    private static void knownAtFirst() {
        of("three numbers, 0 at first:");
        Newsfold x = three();
        int sum = 0;
        for (int i = 0; i < 27; i++) {
            sum += x.known(i / 9, i / 3 % 3, i % 3);
        }
        Check.is("all of them", sum, 0);
        of("what it knows of the ROW of the other one.");
        x.mark(1, 0, 0, 1);
        Check.is("nothing without a LETTER", x.known(0, 1, 1) + " " + x.known(1, 1, 1), "0 1");
    }

    private static void whatALetterHas() {
        of("with a STAMP above 0 whose count is above that of KNOWN (of the sender, of the receiver, as it is then) for the DESK that the STAMP tells;");
        Newsfold x = three();
        Check.is("no STAMP above 0", x.send(0, 1), 0);
        x.lose(0);
        x.mark(0, 0, 0, 1);
        x.mark(0, 0, 0, 0);
        Check.is("a value of 0 with a STAMP", x.send(0, 1), 1);
        x.arrive(0, false);
        x.send(1, 0);
        x.arrive(0, false);
        Check.is("a count that is KNOWN just so", x.known(0, 1, 0) + " " + x.send(0, 1), "2 0");
        x.mark(0, 1, 0, 1);
        Check.is("a count that is above by 1", x.send(0, 1), 1);
        Check.is("for the receiver, not for another one", x.send(0, 2), 2);
        x.mark(1, 2, 0, 1);
        Check.is("for the DESK that the STAMP tells", x.send(1, 0) + " " + x.ofLetter(3, 4), "1 3");
        Newsfold y = Edge.forty();
        y.upTo(0, 20);
        for (int i = 0; i < 40; i++) {
            y.mark(0, i, 1, 1);
            y.mark(0, i, 2, 4);
            y.mark(0, i, 3, 9);
        }
        Check.is("all MARKS of 40 ITEMS", y.send(0, 2) + " " + y.ofLetter(0, 2) + " " + y.arrive(0, true) + " " + y.arrive(0, false),
            "160 160 160 0");
        Check.is("the last one of them too", y.marked(2, 39, 3, false) + " " + y.marked(2, 39, 3, true), "9 " + 3 * 160);
    }

    private static void rowOfTheSender() {
        of("A LETTER from a DESK to another one has the ROW of the sender");
        Newsfold x = lettered();
        x.send(1, 2);
        Check.is("0 for one that did not act, whatever COUNT is", x.ofDesk(1, 0) + " " + x.ofLetter(0, 3) + x.ofLetter(0, 4)
            + x.ofLetter(0, 5), "1 100");
        x.arrive(0, false);
        Check.is("so it is known", x.known(2, 1, 0) + "" + x.known(2, 1, 1) + x.known(2, 2, 1), "100");
        x.mark(1, 1, 3, 1);
        x.mark(0, 1, 3, 1);
        x.mark(0, 1, 3, 2);
        x.send(0, 1);
        x.arrive(0, false);
        x.send(1, 0);
        Check.is("COUNT is above it", x.ofDesk(1, 0) + " " + x.ofLetter(0, 3) + x.ofLetter(0, 4) + x.ofLetter(0, 5), "3 320");
        x.undo(1);
        Check.is("as it was then", x.ofLetter(0, 4) + " " + x.known(1, 1, 1), "2 2");
        x.mark(1, 2, 3, 1);
        Check.is("the next ACT is above COUNT", x.ofLetter(0, 4) + " " + x.known(1, 1, 1), "2 4");
    }

    private static void sendingChangesNoKnown() {
        of("sending changes no KNOWN.");
        Newsfold x = lettered();
        String before = "";
        String after = "";
        for (int i = 0; i < 27; i++) {
            before += x.known(i / 9, i / 3 % 3, i % 3);
        }
        Check.is("the same again", x.send(0, 1) + " " + x.send(0, 1) + " " + x.send(0, 2), "1 1 1");
        for (int i = 0; i < 27; i++) {
            after += x.known(i / 9, i / 3 % 3, i % 3);
        }
        Check.is("KNOWN and ROWS", after, before);
        Check.is("nor COUNT, nor STEPS", x.ofDesk(0, 0) + " " + x.ofDesk(0, 4), "1 1");
    }

    private static void eightLetters() {
        of("LETTERS stand in the WAY, at most 8.");
        Newsfold x = fullWay();
        Check.is("eight", x.house(5) + " " + x.ofLetter(7, 0) + x.ofLetter(7, 1), "8 12");
        Edge.state("a ninth", DeskEdges::fullWay, y -> y.send(2, 0));
        Check.is("one that stays leaves no room", x.arrive(0, true) + " " + Edge.answer(x, y -> y.send(2, 0)),
            "1 throws.IllegalStateException");
        Check.is("one that came leaves room", x.arrive(0, false) + " " + x.send(2, 0) + " " + x.house(5), "0 0 8");
        Check.is("one that is lost leaves room", x.lose(7) + " " + x.send(2, 1) + " " + x.ofLetter(7, 1), "7 0 1");
    }

    static Newsfold fullWay() {
        Newsfold x = three();
        x.mark(0, 0, 0, 1);
        for (int i = 0; i < 8; i++) {
            x.send(i % 2, i % 2 + 1);
        }
        return x;
    }

    private static void markByMark() {
        of("MARK by MARK, if that ITEM is KEPT and the STAMP is greater than that of the MARK of the receiver, this gets value and STAMP;");
        Newsfold x = three();
        x.mark(0, 0, 3, 4);
        x.mark(0, 1, 2, 2);
        x.send(0, 1);
        x.mark(1, 1, 2, 1);
        x.mark(1, 1, 2, 3);
        Check.is("one is greater, one is less", x.arrive(0, true) + " " + x.marked(1, 0, 3, false) + x.marked(1, 1, 2, false), "1 43");
        Check.is("value and STAMP", x.marked(1, 0, 3, true) + " " + x.marked(1, 1, 2, true), "3 7");
        Check.is("the same STAMP is not greater", x.arrive(0, true), 0);
        x.mark(1, 0, 3, 0);
        Check.is("a LETTER of before brings nothing back", x.arrive(0, false) + " " + x.marked(1, 0, 3, false), "0 0");
        Newsfold y = three();
        y.tick(30);
        y.mark(0, 0, 3, 4);
        y.mark(0, 1, 3, 4);
        y.send(0, 1);
        Edge.readOnAll(y, 0);
        y.forget(0);
        Check.is("an ITEM that is not KEPT", y.arrive(0, false) + " " + y.marked(1, 1, 3, false) + " " + y.ofDesk(1, 1), "1 4 0");
        Newsfold w = three();
        w.tick(30);
        w.mark(0, 0, 0, 1);
        w.mark(0, 1, 0, 1);
        w.mark(0, 2, 0, 1);
        w.mark(0, 2, 1, 1);
        w.send(0, 1);
        Edge.readOnAll(w, 0);
        w.forget(0);
        Check.is("the MARKS round those of one that is not KEPT", w.arrive(0, false) + " " + w.ofDesk(1, 1) + w.marked(1, 1, 0, false)
            + w.marked(1, 2, 1, false), "3 211");
        Newsfold v = three();
        v.tick(30);
        v.mark(0, 1, 0, 1);
        v.mark(0, 1, 1, 1);
        v.mark(0, 1, 3, 1);
        v.send(0, 1);
        v.mark(0, 1, 1, 0);
        Edge.readOnAll(v, 1);
        v.forget(0);
        Check.is("READ, STAR, NOTE of one that is not KEPT", v.arrive(0, false) + " " + v.ofDesk(1, 1) + v.ofDesk(1, 2) + v.unlike(), "0 000");
        Check.is("no trace of it", y.isSound() + " " + Edge.answer(y, z -> z.marked(1, 0, 3, true)),
            "true throws.IndexOutOfBoundsException");
    }

    private static void rowAndKnownGrow() {
        of("then, whatever MARKS it took, each number of the receiver's ROW, and of its KNOWN of the sender, becomes that of the LETTER's ROW, if that is greater;");
        Newsfold x = three();
        x.mark(0, 0, 3, 1);
        x.send(0, 1);
        x.mark(0, 0, 3, 2);
        x.mark(0, 0, 3, 3);
        x.send(0, 1);
        Check.is("the later one first", x.arrive(1, false) + " " + rows(x) + " " + x.known(1, 0, 0), "1 300 300 000 3");
        Check.is("a smaller ROW changes nothing", x.arrive(0, false) + " " + rows(x) + " " + x.known(1, 0, 0), "0 300 300 000 3");
        x.send(0, 2);
        x.mark(2, 0, 3, 1);
        x.mark(2, 0, 3, 2);
        x.mark(2, 0, 3, 1);
        x.mark(2, 0, 3, 2);
        Check.is("whatever it took: nothing", x.arrive(0, false) + " " + rows(x) + " " + x.known(2, 0, 0), "0 300 300 304 3");
        Newsfold y = three();
        y.mark(1, 0, 3, 1);
        y.send(1, 2);
        y.arrive(0, false);
        y.mark(2, 1, 3, 1);
        y.send(2, 0);
        y.arrive(0, false);
        Check.is("numbers of a third DESK too", rows(y) + " " + y.known(0, 2, 1) + y.known(0, 2, 2) + " " + y.known(0, 1, 1), "012 010 012 12 0");
        Check.is("of the sender, no KNOWN of the receiver", y.known(2, 0, 1) + y.known(2, 0, 2), 0);
        Newsfold z = three();
        z.send(0, 1);
        Check.is("a LETTER of nothing", z.arrive(0, false) + " " + rows(z), "0 000 000 000");
    }

    private static void countGrows() {
        of("COUNT becomes the greatest number of the LETTER's ROW, if that is greater.");
        Newsfold x = three();
        x.mark(0, 0, 3, 1);
        x.mark(0, 0, 3, 2);
        x.mark(1, 1, 3, 1);
        x.send(0, 1);
        x.send(1, 0);
        x.arrive(0, false);
        Check.is("greater", x.ofDesk(1, 0), 2);
        x.arrive(0, false);
        Check.is("less", x.ofDesk(0, 0), 2);
        x.mark(1, 2, 0, 1);
        Check.is("counted on from there", x.marked(1, 2, 0, true) + " " + x.ofDesk(1, 0), "10 3");
        x.send(1, 2);
        x.arrive(0, false);
        Check.is("the greatest of its numbers, not the first one", x.ofDesk(2, 0) + " " + x.known(2, 2, 0) + x.known(2, 2, 1) + x.known(2, 2, 2),
            "3 230");
        x.send(2, 0);
        x.arrive(0, false);
        Check.is("also of another DESK than the sender", x.ofDesk(0, 0), 3);
    }
}
