/** Each sentence of promises 29 to 40 that names an edge: one method each. */
final class DeskCallEdges {
    private DeskCallEdges() { }

    static void run() {
        markIfAnother();
        markedBefore();
        markWhere();
        markWhat();
        opened();
        openedText();
        openWhere();
        upToIt();
        notReadBefore();
        upToWhere();
        undone();
        actsOfUndo();
        undoWhere();
        markedWhich();
        markedWhere();
        letterBehind();
        marksOfLetter();
        sendWhere();
        comesToItsDesk();
        stays();
        gotAStamp();
        arriveWhere();
        lost();
        lostWhere();
        ofLetter();
        ofLetterWhere();
        known();
        knownOfWhom();
        unlike();
        ofDesk();
        ofDeskWhere();
    }

    private static Newsfold three() {
        return DeskEdges.three();
    }

    private static void markIfAnother() {
        Sentence.of(29, "Gives a MARK a value (by an ACT, if it is another one; that is a STEP).");
        Newsfold x = three();
        Edge.leaves("0, as it is", Edge::rich, 0, y -> y.mark(0, 4, 3, 0));
        Edge.leaves("8, as it is", Edge::rich, 8, y -> y.mark(2, 0, 3, 8));
        x.mark(0, 0, 3, 9);
        Check.is("another one", x.ofDesk(0, 0) + " " + x.ofDesk(0, 4) + " " + x.known(0, 0, 0) + " " + x.marked(0, 0, 3, true), "1 1 1 3");
        x.mark(0, 0, 3, 0);
        Check.is("back", x.ofDesk(0, 0) + " " + x.ofDesk(0, 4) + " " + x.marked(0, 0, 3, false), "2 2 0");
    }

    private static void markedBefore() {
        Sentence.of(29, "Returns that before.");
        Newsfold x = three();
        int[] most = {1, 1, 4, 9};
        for (int what = 0; what < 4; what++) {
            Check.is("MARK " + what, x.mark(0, 1, what, most[what]) + " " + x.mark(0, 1, what, most[what]) + " "
                + x.mark(0, 1, what, 0) + " " + x.mark(0, 1, what, 0), "0 " + most[what] + " " + most[what] + " 0");
        }
    }

    private static void markWhere() {
        Sentence.of(29, "Throws `IndexOutOfBoundsException` if desk is not 0 to 2, or no such ITEM is KEPT");
        Edge.indexes("mark on DESK", Edge::rich, 0, 2, (x, n) -> x.mark(n, 0, 0, 1));
        Edge.indexes("mark ITEM", Edge::rich, 0, 5, (x, n) -> x.mark(0, n, 0, 1));
        Edge.indexes("mark ITEM of 40", Edge::forty, 0, 39, (x, n) -> x.mark(0, n, 0, 1));
        Edge.index("one that is GONE", Edge::rich, x -> x.mark(0, 6, 0, 1));
        Edge.index("no DESK, ahead of a wrong what and value", Edge::rich, x -> x.mark(3, 0, 4, 10));
        Edge.index("no ITEM, ahead of a wrong what and value", Edge::rich, x -> x.mark(0, 7, -1, -1));
    }

    private static void markWhat() {
        Sentence.of(29, "Throws `IllegalArgumentException` if what is not 0 to 3, or value is not one of that MARK");
        Edge.arguments("mark what", Edge::rich, 0, 3, (x, n) -> x.mark(0, 0, n, 1));
        int[] most = {1, 1, 4, 9};
        for (int what = 0; what < 4; what++) {
            int of = what;
            Edge.arguments("value of MARK " + what, Edge::rich, 0, most[what], (x, n) -> x.mark(1, 0, of, n));
        }
        Edge.argument("a value of NOTE for FOLDER", Edge::rich, x -> x.mark(0, 0, 2, 9));
        Edge.argument("a value of FOLDER for STAR", Edge::rich, x -> x.mark(0, 0, 1, 4));
    }

    private static void opened() {
        Sentence.of(30, "Opens an ITEM: READ becomes 1 there, as by mark(); it is the last one of SHOWN.");
        Newsfold x = three();
        x.open(1, 2);
        Check.is("READ there alone", x.marked(0, 2, 0, false) + "" + x.marked(1, 2, 0, false) + x.marked(2, 2, 0, false), "010");
        Check.is("by an ACT that is a STEP", x.ofDesk(1, 0) + " " + x.ofDesk(1, 4) + " " + x.marked(1, 2, 0, true), "1 1 4");
        Check.is("SHOWN", x.shown(), "2");
        x.open(0, 1);
        x.open(1, 2);
        Check.is("READ already: no ACT, no STEP, but the last one", x.ofDesk(1, 0) + " " + x.ofDesk(1, 4) + " " + x.shown(), "1 1 1 2");
        Check.is("it is undone", x.undo(1) + " " + x.marked(1, 2, 0, false) + " " + x.shown(), "1 0 1 2");
    }

    private static void openedText() {
        Sentence.of(30, "Returns its FEED, \":\", its NAME, \"@\", its TIME, a blank, and its TEXT.");
        Newsfold x = Edge.fetched(0, "0,0,a;99,9999,a b c d e");
        x.feed(1);
        Check.put(x, 1, "<  aff  /0>");
        x.fetch(1);
        Check.is("small, great, without NAME", x.open(0, 0) + "|" + x.open(0, 1) + "|" + x.open(2, 2),
            "0:0@0 a|0:99@9999 a b c d e|1:100@0 aff");
        Check.is("the same again", x.open(0, 0), "0:0@0 a");
    }

    private static void openWhere() {
        Sentence.of(30, "Throws `IndexOutOfBoundsException` if desk is not 0 to 2, or no such ITEM is KEPT");
        Edge.indexes("open on DESK", Edge::rich, 0, 2, (x, n) -> x.open(n, 0));
        Edge.indexes("open ITEM", Edge::rich, 0, 5, (x, n) -> x.open(0, n));
        Edge.indexes("open ITEM of 40", Edge::forty, 0, 39, (x, n) -> x.open(0, n));
        Edge.index("open one that is GONE", Edge::rich, x -> x.open(0, 6));
        Edge.index("open without ITEMS", Newsfold::new, x -> x.open(0, 0));
    }

    private static void upToIt() {
        Sentence.of(31, "READ becomes 1 for all ITEMS that stand in the LIST of the VIEW 0 (as it is ahead of the call) ahead of an ITEM,"
            + " and for this, in that order (all of it is one STEP).");
        Newsfold x = three();
        Check.is("the first one: this alone", x.upTo(0, 2) + " " + x.list(0, 1), "1 1 0");
        Newsfold y = three();
        Check.is("the last one: all", y.upTo(0, 0) + " " + y.list(0, 1) + y.ofDesk(0, 4), "3 1");
        Newsfold z = three();
        z.mark(0, 1, 0, 1);
        Check.is("READ between", z.upTo(0, 0) + " " + z.ofDesk(0, 4) + " " + z.undo(0) + " " + z.list(0, 1), "2 2 2 2 0");
        Newsfold w = three();
        w.rule(3, 1, -9);
        Check.is("as it is ahead of the call", w.upTo(0, 1) + " " + w.list(0, 1) + "|" + w.list(0, 0), "2 0|0 2 1");
        Check.is("in that order", w.marked(0, 2, 0, true) + " " + w.marked(0, 1, 0, true), "3 6");
        Newsfold v = Edge.forty();
        Check.is("40", v.upTo(1, 20) + " " + v.ofDesk(1, 1) + " " + v.ofDesk(1, 4) + " " + v.marked(1, 20, 0, true), "40 40 1 121");
        Check.is("on that DESK alone", v.ofDesk(0, 1) + v.ofDesk(2, 1), 0);
    }

    private static void notReadBefore() {
        Sentence.of(31, "Returns how many were not READ there before.");
        Newsfold x = three();
        x.upTo(0, 1);
        Edge.leaves("none", () -> readUpTo1(), 0, y -> y.upTo(0, 1));
        Edge.leaves("none ahead of it either", () -> readUpTo1(), 0, y -> y.upTo(0, 2));
        Check.is("one", x.upTo(0, 0), 1);
        Check.is("three on another DESK", x.upTo(1, 0), 3);
    }

    private static Newsfold readUpTo1() {
        Newsfold x = three();
        x.upTo(0, 1);
        return x;
    }

    private static void upToWhere() {
        Sentence.of(31, "Throws `IndexOutOfBoundsException` if desk is not 0 to 2, or no such ITEM is KEPT");
        Edge.indexes("upTo on DESK", Edge::rich, 0, 2, (x, n) -> x.upTo(n, 0));
        Edge.indexes("upTo ITEM", Edge::rich, 0, 5, (x, n) -> x.upTo(0, n));
        Edge.indexes("upTo ITEM of 40", Edge::forty, 0, 39, (x, n) -> x.upTo(0, n));
        Edge.index("upTo one that is GONE", Edge::rich, x -> x.upTo(0, 6));
    }

    private static void undone() {
        Sentence.of(32, "Undoes the last STEP that is kept.");
        Newsfold x = three();
        x.mark(0, 0, 3, 1);
        x.mark(1, 0, 3, 2);
        x.mark(0, 1, 3, 3);
        Check.is("the last one of that DESK", x.undo(0) + " " + x.marked(0, 1, 3, false) + x.marked(1, 0, 3, false)
            + x.marked(0, 0, 3, false), "1 021");
        Check.is("the one ahead of it", x.undo(0) + " " + x.marked(0, 0, 3, false) + " " + x.ofDesk(1, 4), "1 0 1");
    }

    private static void actsOfUndo() {
        Sentence.of(32, "Returns how many ACTS that made.");
        Newsfold x = three();
        x.mark(0, 1, 0, 1);
        x.undo(0);
        x.upTo(0, 0);
        x.mark(0, 1, 0, 0);
        x.undo(0);
        Check.is("two of three", x.undo(0) + " " + x.ofDesk(0, 0), "2 9");
        Newsfold y = three();
        y.mark(0, 1, 3, 1);
        y.mark(0, 1, 3, 2);
        y.undo(0);
        Check.is("none", y.undo(0) + " " + y.ofDesk(0, 0), "0 3");
    }

    private static void undoWhere() {
        Sentence.of(32, "Throws `IndexOutOfBoundsException` if desk is not 0 to 2");
        Edge.indexes("undo", Edge::rich, 0, 2, Newsfold::undo);
        Edge.index("undo without STEPS", Newsfold::new, x -> x.undo(3));
        Sentence.of(32, "Throws `IllegalStateException` if no STEP of it is kept");
        Edge.state("never one", DeskEdges::three, x -> x.undo(0));
        Edge.state("one of other DESKS alone", () -> readUpTo1(), x -> x.undo(1));
        Edge.state("the only one is undone", DeskCallEdges::undoneOnce, x -> x.undo(0));
        Edge.state("all five are undone", DeskCallEdges::undoneFiveTimes, x -> x.undo(2));
    }

    private static Newsfold undoneOnce() {
        Newsfold x = readUpTo1();
        x.undo(0);
        return x;
    }

    private static Newsfold undoneFiveTimes() {
        Newsfold x = three();
        for (int i = 1; i < 7; i++) {
            x.mark(2, 0, 3, i);
        }
        for (int i = 0; i < 5; i++) {
            x.undo(2);
        }
        return x;
    }

    private static void markedWhich() {
        Sentence.of(33, "Returns that.");
        Newsfold x = three();
        x.mark(2, 0, 3, 9);
        x.mark(2, 0, 3, 0);
        Check.is("a value of 0 with a STAMP", x.marked(2, 0, 3, false) + " " + x.marked(2, 0, 3, true), "0 8");
        for (int what = 0; what < 4; what++) {
            int of = what;
            Edge.asks("marked", Edge::rich, y -> y.marked(2, 0, of, false) + " " + y.marked(2, 0, of, true));
        }
    }

    private static void markedWhere() {
        Sentence.of(33, "Throws `IndexOutOfBoundsException` if desk is not 0 to 2, or no such ITEM is KEPT");
        Edge.indexes("marked on DESK", Edge::rich, 0, 2, (x, n) -> x.marked(n, 0, 0, true));
        Edge.indexes("marked of ITEM", Edge::rich, 0, 5, (x, n) -> x.marked(0, n, 0, false));
        Edge.index("marked of one that is GONE", Edge::rich, x -> x.marked(0, 6, 0, true));
        Edge.index("no DESK, ahead of a wrong what", Edge::rich, x -> x.marked(3, 0, 4, true));
        Edge.index("no ITEM, ahead of a wrong what", Edge::rich, x -> x.marked(0, 6, 4, true));
        Sentence.of(33, "Throws `IllegalArgumentException` if what is not 0 to 3");
        Edge.arguments("marked what", Edge::rich, 0, 3, (x, n) -> x.marked(0, 0, n, true));
        Edge.arguments("marked what", Edge::rich, 0, 3, (x, n) -> x.marked(0, 0, n, false));
    }

    private static void letterBehind() {
        Sentence.of(34, "A LETTER comes behind the WAY.");
        Newsfold x = three();
        x.send(0, 1);
        x.send(2, 0);
        x.send(1, 2);
        Check.is("behind", x.ofLetter(0, 0) + "" + x.ofLetter(1, 0) + x.ofLetter(2, 0) + " " + x.house(5), "021 3");
        x.lose(1);
        x.send(0, 2);
        Check.is("behind those that are left", x.ofLetter(1, 0) + "" + x.ofLetter(2, 0) + x.ofLetter(2, 1), "102");
    }

    private static void marksOfLetter() {
        Sentence.of(34, "Returns how many MARKS it has.");
        Newsfold x = three();
        Check.is("none", x.send(0, 1) + " " + x.ofLetter(0, 2), "0 0");
        x.upTo(0, 0);
        Check.is("three", x.send(0, 1) + " " + x.ofLetter(1, 2), "3 3");
        x.undo(0);
        x.mark(0, 0, 1, 1);
        Check.is("values of 0 too", x.send(0, 1) + " " + x.ofLetter(2, 2) + " " + x.ofLetter(1, 2), "4 4 3");
    }

    private static void sendWhere() {
        Sentence.of(34, "Throws `IndexOutOfBoundsException` if from or to is not 0 to 2");
        Edge.indexes("send from", Edge::rich, 1, 2, (x, n) -> x.send(n == 0 ? -1 : n, 0));
        Edge.indexes("send to", Edge::rich, 0, 1, (x, n) -> x.send(2, n == 2 ? 3 : n));
        Edge.index("both, and the same", Edge::rich, x -> x.send(3, 3));
        Edge.index("with a full WAY", DeskEdges::fullWay, x -> x.send(0, 3));
        Sentence.of(34, "Throws `IllegalArgumentException` if they are the same");
        for (int desk = 0; desk < 3; desk++) {
            int same = desk;
            Edge.argument("send to itself", Edge::rich, x -> x.send(same, same));
            Edge.argument("with a full WAY", DeskEdges::fullWay, x -> x.send(same, same));
        }
        Sentence.of(34, "Throws `IllegalStateException` if the WAY has 8");
        Edge.state("8", DeskEdges::fullWay, x -> x.send(0, 2));
        Newsfold x = DeskEdges.fullWay();
        x.lose(3);
        Check.is("7", Edge.answer(x, y -> y.send(0, 2)) + " " + x.house(5), "1 8");
    }

    private static void comesToItsDesk() {
        Sentence.of(35, "A LETTER comes to its DESK.");
        Newsfold x = three();
        x.mark(0, 0, 3, 5);
        x.send(0, 1);
        x.send(0, 2);
        x.mark(0, 0, 3, 6);
        Check.is("as it was sent, to that DESK alone", x.arrive(1, false) + " " + x.marked(2, 0, 3, false) + x.marked(1, 0, 3, false)
            + x.marked(0, 0, 3, false), "1 506");
    }

    private static void stays() {
        Sentence.of(35, "whether it stays in the WAY (and may come again), otherwise it is off it");
        Newsfold x = DeskEdges.fullWay();
        Check.is("it stays", x.arrive(0, true) + " " + x.house(5) + " " + x.ofLetter(0, 2), "1 8 1");
        Check.is("it comes again", x.arrive(0, true) + " " + x.house(5), "0 8");
        Check.is("it is off", x.arrive(0, false) + " " + x.house(5) + " " + x.ofLetter(0, 0), "0 7 1");
        Check.is("the last one is off", x.arrive(6, false) + " " + x.house(5), "0 6");
        for (int i = 5; i >= 0; i--) {
            x.arrive(0, false);
            Check.is("one less", x.house(5), i);
        }
        Check.is("none is left", Edge.answer(x, y -> y.arrive(0, false)), "throws.IndexOutOfBoundsException");
        Check.is("the WAY is used again", x.send(2, 1) + " " + x.house(5) + " " + x.ofLetter(0, 0), "0 1 2");
    }

    private static void gotAStamp() {
        Sentence.of(35, "Returns how many MARKS of the receiver got a STAMP by it.");
        Newsfold x = three();
        x.upTo(0, 0);
        x.send(0, 1);
        x.mark(1, 1, 0, 1);
        x.mark(1, 1, 1, 1);
        x.mark(1, 1, 0, 0);
        Check.is("two of three", x.arrive(0, true) + " " + x.ofLetter(0, 2), "2 3");
        Check.is("none", x.arrive(0, true), 0);
        Newsfold y = three();
        y.mark(0, 0, 0, 1);
        y.mark(1, 0, 0, 1);
        y.mark(1, 0, 0, 0);
        y.mark(1, 0, 0, 1);
        y.send(1, 0);
        Check.is("the same value, a greater STAMP", y.arrive(0, false) + " " + y.marked(0, 0, 0, true), "1 10");
    }

    private static void arriveWhere() {
        Sentence.of(35, "Throws `IndexOutOfBoundsException` if there is no such place");
        Edge.indexes("arrive", Edge::rich, 0, 2, (x, n) -> x.arrive(n, true));
        Edge.indexes("arrive of 8", DeskEdges::fullWay, 0, 7, (x, n) -> x.arrive(n, false));
        Edge.index("an empty WAY", DeskEdges::three, x -> x.arrive(0, true));
        Sentence.of(35, "its place in the WAY, from 0 on");
        Newsfold x = three();
        x.mark(0, 0, 0, 1);
        x.send(1, 0);
        x.send(0, 1);
        Check.is("0 and 1", x.arrive(0, true) + " " + x.arrive(1, true), "0 1");
    }

    private static void lost() {
        Sentence.of(36, "A LETTER is lost.");
        Newsfold x = three();
        x.mark(0, 0, 0, 1);
        x.send(0, 1);
        x.lose(0);
        Check.is("nothing came", x.marked(1, 0, 0, false) + x.known(1, 0, 0) + x.ofDesk(1, 0), 0);
        Check.is("it can be sent again", x.send(0, 1), 1);
        Sentence.of(36, "Returns how many LETTERS are left.");
        Newsfold y = DeskEdges.fullWay();
        Check.is("7, 6", y.lose(7) + " " + y.lose(0) + " " + y.ofLetter(0, 0) + " " + y.house(5), "7 6 1 6");
        Check.is("0", x.lose(0), 0);
    }

    private static void lostWhere() {
        Sentence.of(36, "Throws `IndexOutOfBoundsException` if there is no such place");
        Edge.indexes("lose", Edge::rich, 0, 2, Newsfold::lose);
        Edge.indexes("lose of 8", DeskEdges::fullWay, 0, 7, Newsfold::lose);
        Edge.index("an empty WAY", DeskEdges::three, x -> x.lose(0));
        Sentence.of(36, "its place in the WAY, from 0 on");
        Newsfold x = three();
        x.send(0, 1);
        x.send(1, 2);
        Check.is("that one, not another", x.lose(0) + " " + x.ofLetter(0, 0), "1 1");
    }

    private static void ofLetter() {
        Sentence.of(37, "- `what`: 0 the sender, 1 the receiver, 2 how many MARKS it has, 3 to 5 its ROW");
        Newsfold x = three();
        x.mark(0, 0, 0, 1);
        x.send(0, 1);
        x.arrive(0, false);
        x.mark(1, 0, 1, 1);
        x.mark(1, 0, 2, 1);
        x.send(1, 2);
        x.arrive(0, false);
        x.mark(2, 0, 3, 1);
        x.send(2, 0);
        x.mark(2, 0, 3, 2);
        String got = "";
        for (int what = 0; what < 6; what++) {
            got += x.ofLetter(0, what) + " ";
        }
        Check.is("as it was sent", got, "2 0 4 1 3 4 ");
        Sentence.of(37, "Returns that.");
        for (int what = 0; what < 6; what++) {
            int of = what;
            Edge.asks("ofLetter", Edge::rich, y -> y.ofLetter(1, of));
        }
    }

    private static void ofLetterWhere() {
        Sentence.of(37, "Throws `IndexOutOfBoundsException` if there is no such place");
        Edge.indexes("ofLetter", Edge::rich, 0, 2, (x, n) -> x.ofLetter(n, 0));
        Edge.indexes("ofLetter of 8", DeskEdges::fullWay, 0, 7, (x, n) -> x.ofLetter(n, 5));
        Edge.index("an empty WAY", DeskEdges::three, x -> x.ofLetter(0, 0));
        Edge.index("ahead of a wrong what", Edge::rich, x -> x.ofLetter(3, 6));
        Sentence.of(37, "Throws `IllegalArgumentException` if what is not 0 to 5");
        Edge.arguments("ofLetter what", Edge::rich, 0, 5, (x, n) -> x.ofLetter(0, n));
    }

    private static void known() {
        Sentence.of(38, "for the DESK of; if other is desk: that of its own ROW.");
        Newsfold x = three();
        x.mark(0, 0, 0, 1);
        x.send(0, 1);
        x.arrive(0, false);
        x.mark(1, 0, 0, 0);
        Check.is("its own ROW", x.known(1, 1, 0) + " " + x.known(1, 1, 1) + " " + x.known(1, 1, 2), "1 2 0");
        Check.is("of the other one, as it was told", x.known(1, 0, 0) + " " + x.known(1, 0, 1) + " " + x.known(0, 1, 1), "1 0 0");
        Edge.asks("known", Edge::rich, y -> y.known(1, 0, 0) + " " + y.known(1, 1, 1));
    }

    private static void knownOfWhom() {
        Sentence.of(38, "Throws `IndexOutOfBoundsException` if one of them is not 0 to 2");
        Edge.indexes("known: desk", Edge::rich, 0, 2, (x, n) -> x.known(n, 0, 0));
        Edge.indexes("known: other", Edge::rich, 0, 2, (x, n) -> x.known(0, n, 0));
        Edge.indexes("known: of", Edge::rich, 0, 2, (x, n) -> x.known(0, 0, n));
    }

    private static void unlike() {
        Sentence.of(39, "Returns how many MARKS of KEPT ITEMS have not the same value on all DESKS.");
        Newsfold x = three();
        Check.is("none", x.unlike(), 0);
        for (int desk = 0; desk < 3; desk++) {
            Newsfold y = three();
            y.mark(desk, 2, 3, 9);
            Check.is("one DESK is unlike the two others", y.unlike(), 1);
            y.mark((desk + 1) % 3, 2, 3, 8);
            Check.is("all three are unlike: one MARK", y.unlike(), 1);
            y.mark((desk + 1) % 3, 2, 3, 9);
            y.mark((desk + 2) % 3, 2, 3, 9);
            Check.is("the same value with other STAMPS", y.unlike(), 0);
        }
        Newsfold z = three();
        for (int what = 0; what < 4; what++) {
            z.mark(1, 0, what, 1);
        }
        Check.is("each MARK of an ITEM", z.unlike(), 4);
        Edge.readOnAll(z, 0);
        z.mark(1, 0, 1, 0);
        z.tick(10);
        Check.is("two of them", z.unlike() + " " + z.forget(0), "2 1");
        Check.is("not those of one that is GONE", z.unlike(), 0);
        Newsfold w = Edge.forty();
        w.upTo(0, 20);
        Check.is("40", w.unlike(), 40);
        Newsfold v = three();
        Edge.readOnAll(v, 0);
        v.tick(10);
        v.forget(0);
        v.mark(0, 1, 0, 1);
        Check.is("one behind what is GONE", v.unlike(), 1);
        Edge.asks("unlike", Edge::rich, Newsfold::unlike);
    }

    private static void ofDesk() {
        Sentence.of(40, "9 in how many minutes it is morning next (1 to 1440)");
        Newsfold x = new Newsfold();
        Check.is("480 at first", x.ofDesk(0, 9), 480);
        x.tick(479);
        Check.is("in 1", x.ofDesk(0, 9), 1);
        x.tick(1);
        Check.is("in 1440, as it is morning", x.ofDesk(0, 9) + " " + x.ofDesk(0, 5), "1440 1");
        x.tick(1);
        Check.is("in 1439", x.ofDesk(0, 9), 1439);
        Newsfold y = Edge.rich();
        Check.is("COUNT, READ, STAR, FOLDER, STEPS", y.ofDesk(2, 0) + " " + y.ofDesk(2, 1) + " " + y.ofDesk(2, 2) + " " + y.ofDesk(2, 3)
            + " " + y.ofDesk(2, 4), "4 1 1 0 4");
        Check.is("DIGESTS and ITEMS in these", y.ofDesk(0, 5) + " " + y.ofDesk(0, 6) + " " + y.ofDesk(2, 5) + " " + y.ofDesk(2, 6),
            "1 4 0 0");
        Newsfold z = Edge.forty();
        z.upTo(0, 20);
        z.mark(0, 39, 1, 1);
        z.mark(0, 39, 2, 4);
        z.mark(0, 0, 2, 1);
        Check.is("of 40", z.ofDesk(0, 0) + " " + z.ofDesk(0, 1) + " " + z.ofDesk(0, 2) + " " + z.ofDesk(0, 3), "43 40 1 2");
        Sentence.of(40, "Returns that.");
        for (int what = 0; what < 10; what++) {
            int of = what;
            Edge.asks("ofDesk " + what, Edge::rich, w -> w.ofDesk(1, of));
        }
    }

    private static void ofDeskWhere() {
        Sentence.of(40, "Throws `IndexOutOfBoundsException` if desk is not 0 to 2");
        Edge.indexes("ofDesk", Edge::rich, 0, 2, (x, n) -> x.ofDesk(n, 0));
        Edge.index("ahead of a wrong what", Edge::rich, x -> x.ofDesk(3, 10));
        Sentence.of(40, "Throws `IllegalArgumentException` if what is not 0 to 9");
        Edge.arguments("ofDesk what", Edge::rich, 0, 9, (x, n) -> x.ofDesk(0, n));
    }
}
