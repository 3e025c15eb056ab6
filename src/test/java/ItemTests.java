/** Promises 15 to 20: ITEMS and STORIES. */
final class ItemTests {
    private ItemTests() { }

    static void run() {
        ofItem();
        text();
        find();
        story();
        rare();
        apart();
        common();
    }

    private static void ofItem() {
        Newsfold x = new Newsfold();
        x.tick(3);
        x.feed(0);
        x.feed(1);
        Check.put(x, 1, "<aa ab aa/100/4><aa ab/101/5>");
        x.fetch(1);
        Check.put(x, 1, "<aa ab cc aa/100/4>");
        x.fetch(1);
        x.rule(4, 2, 5);
        x.rule(1, 1, -7);
        x.mark(0, 0, 0, 1);
        x.mark(2, 0, 0, 1);
        int[] due = {1, 4, 100, 4, 1, 2, 3, 0, 2, -2, 2};
        int[] other = {1, 5, 101, 2, 0, 0, 3, 0, 2, -2, 0};
        for (int what = 0; what < due.length; what++) {
            Check.is("ofItem(0, " + what + ")", x.ofItem(0, what), due[what]);
            Check.is("ofItem(1, " + what + ")", x.ofItem(1, what), other[what]);
        }
        Check.index("ofItem(2, 11)", x, () -> x.ofItem(2, 11));
        Check.index("ofItem(-1, 0)", x, () -> x.ofItem(-1, 0));
        Check.index("ofItem(40, 0)", x, () -> x.ofItem(40, 0));
        Check.argument("ofItem(0, 11)", x, () -> x.ofItem(0, 11));
        Check.argument("ofItem(0, -1)", x, () -> x.ofItem(0, -1));
    }

    private static void text() {
        Newsfold x = Check.fetched("1,1,  abcdefgh  a ;2,2,hh");
        Check.is("text(0)", x.text(0), "abcdefgh a");
        Check.is("text(1)", x.text(1), "hh");
        Check.index("text(2)", x, () -> x.text(2));
        Check.index("text(-1)", x, () -> x.text(-1));
        x.tick(2);
        for (int d = 0; d < 3; d++) {
            x.mark(d, 0, 0, 1);
        }
        x.forget(0);
        Check.index("text of a forgotten one", x, () -> x.text(0));
        Check.is("text of the other one", x.text(1), "hh");
    }

    private static void find() {
        Newsfold x = Check.fetched("3,1,ab;,1,a");
        x.feed(0);
        Check.is("find(0, 3)", x.find(0, 3), 0);
        Check.is("find(0, 101)", x.find(0, 101), 1);
        Check.is("find in another FEED", x.find(1, 3), -1);
        Check.is("find(0, 196)", x.find(0, 196), -1);
        Check.is("find(0, 0)", x.find(0, 0), -1);
        x.tick(1);
        for (int d = 0; d < 3; d++) {
            x.mark(d, 0, 0, 1);
        }
        x.forget(0);
        Check.is("find what is GONE", x.find(0, 3), -9);
        Check.is("GONE of that FEED alone", x.find(1, 3), -1);
        Check.index("find(2, 197)", x, () -> x.find(2, 197));
        Check.argument("find(0, 197)", x, () -> x.find(0, 197));
        Check.argument("find(0, -1)", x, () -> x.find(0, -1));
    }

    private static void story() {
        Newsfold x = Check.fetched("0,0,aa bb cc;1,720,bb cc dd;2,1440,cc dd ee;3,721,aa bb");
        Check.is("one comes from one to another", x.story(0), "0 1 2");
        Check.is("from the last one too", x.story(2), "0 1 2");
        Check.is("721 minutes are too many", x.story(3), "3");
        Check.is("told by the smallest", x.ofItem(2, 7) + " " + x.ofItem(3, 7) + " " + x.ofItem(2, 8), "0 3 3");
        Check.is("two STORIES", x.house(7), 2);
        Check.index("story(4)", x, () -> x.story(4));
        Check.index("story(-1)", x, () -> x.story(-1));
        Newsfold y = Check.fetched("0,0,ab cd;1,0,a b c d;2,0,abc d cd;3,0,ab ab;4,0,ab ab");
        Check.is("one WORD twice is one", y.story(3) + "|" + y.story(0), "3|0");
        Newsfold z = Check.fetched("0,0,a b;1,720,b a;2,1441,a b");
        Check.is("just 720, just 721", z.story(0) + "|" + z.story(2), "0 1|2");
    }

    private static void rare() {
        Newsfold x = Check.fetched("0,0,a b;1,0,a b;2,0,a b c c c");
        Check.is("three have it", x.story(0), "0 1 2");
        Check.put(x, 0, "3,0,a a a");
        x.fetch(0);
        Check.is("a fourth makes it usual", x.story(0) + "|" + x.common(0, 1), "0|1");
        Check.is("more often in one ITEM is no more", x.common(2, 2), 2);
        x.tick(1);
        for (int d = 0; d < 3; d++) {
            x.mark(d, 3, 0, 1);
        }
        x.forget(0);
        Check.is("it is rare again without the fourth", x.story(0), "0 1 2");
        Check.put(x, 0, "1,1,a d");
        x.fetch(0);
        Check.is("it has another text", x.story(0) + "|" + x.story(1), "0 2|1");
    }

    private static void apart() {
        Newsfold x = Check.fetched("0,0,a b;1,0,a b c;2,0,b c d;3,0,c d");
        Check.is("all together", x.story(0), "0 1 2 3");
        Check.is("apart(1, 2)", x.apart(1, 2, true), 0);
        Check.is("parted", x.story(0) + "|" + x.story(3), "0 1|2 3");
        Check.is("pairs", x.house(8), 1);
        Check.is("apart again", x.apart(2, 1, true) + " " + x.house(8), "1 1");
        Check.is("apart(0, 3)", x.apart(3, 0, true) + " " + x.house(8), "0 2");
        Check.is("no more", x.apart(2, 1, false) + " " + x.house(8), "1 1");
        Check.is("others join them all the same", x.story(3), "0 1 2 3");
        Check.is("no more what was not", x.apart(2, 1, false), 0);
        Check.argument("apart of one", x, () -> x.apart(1, 1, true));
        Check.index("apart of none", x, () -> x.apart(4, 4, true));
        Check.index("apart of one and none", x, () -> x.apart(0, 4, true));
        Check.index("apart of none and one", x, () -> x.apart(-1, 0, true));
        x.tick(1);
        x.apart(0, 1, true);
        x.apart(1, 2, true);
        for (int d = 0; d < 3; d++) {
            x.mark(d, 0, 0, 1);
        }
        Check.is("forgetting one", x.forget(0), 1);
        Check.is("takes its pairs along", x.house(8), 1);
    }

    private static void common() {
        Newsfold x = Check.fetched("0,0,a b c a b;1,9999,b a d;2,0,e;3,0,b;4,0,b");
        Check.is("unlike ones alone, and no usual ones", x.common(0, 1), 1);
        Check.is("of itself", x.common(0, 0) + " " + x.common(3, 3), "2 0");
        Check.is("none", x.common(0, 2), 0);
        Check.is("also if they are held APART", x.apart(0, 1, true) + x.common(1, 0), 1);
        Check.index("common(0, 5)", x, () -> x.common(0, 5));
        Check.index("common(-1, 0)", x, () -> x.common(-1, 0));
    }
}
