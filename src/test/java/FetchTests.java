/** Promises 11 to 14: how PAGES are read and FETCHED, by hand and by the clock. */
final class FetchTests {
    private FetchTests() { }

    static void run() {
        pieces();
        tags();
        names();
        newer();
        room();
        fetch();
        gaps();
        tick();
        ofFeed();
        fetched();
    }

    /** ENTRIES and FAULTS of a PAGE. */
    private static String read(int form, String page) {
        Newsfold x = new Newsfold();
        x.feed(form);
        Check.put(x, 0, page);
        String now = x.ofFeed(0, 7) + "+" + x.ofFeed(0, 8);
        x.fetch(0);
        Check.is(page + " has FAULTS in the FETCH", x.ofFeed(0, 6), x.ofFeed(0, 8));
        return now;
    }

    private static void pieces() {
        Check.is("an empty page", read(0, ""), "0+0");
        Check.is("empty pieces", read(0, ";;;"), "0+0");
        Check.is("a blank", read(0, "; ;"), "0+1");
        Check.is("one entry", read(0, "1,2,a"), "1+0");
        Check.is("without NAME", read(0, ",2,a;"), "1+0");
        Check.is("a blank for a NAME", read(0, " ,2,a"), "0+1");
        Check.is("a blank ahead of a NAME", read(0, " 1,2,a"), "0+1");
        Check.is("a blank behind a TIME", read(0, "1,2 ,a"), "0+1");
        Check.is("NAME 99", read(0, "99,2,a"), "1+0");
        Check.is("NAME 100", read(0, "100,2,a"), "0+1");
        Check.is("NAME with 0s", read(0, "000000000000000099,2,a"), "1+0");
        Check.is("NAME of letters", read(0, "a,2,a"), "0+1");
        Check.is("TIME 9999", read(0, "1,9999,a"), "1+0");
        Check.is("TIME 10000", read(0, "1,10000,a"), "0+1");
        Check.is("TIME with 0s", read(0, "1,00000000000000000009999,a"), "1+0");
        Check.is("TIME that wraps around", read(0, "1,4294967297,a"), "0+1");
        Check.is("without TIME", read(0, "1,,a"), "0+1");
        Check.is("without WORDS", read(0, "1,2,"), "0+1");
        Check.is("blanks for WORDS", read(0, "1,2,   "), "0+1");
        Check.is("five WORDS", read(0, "1,2,  a bb  c d   e "), "1+0");
        Check.is("six WORDS", read(0, "1,2,a b c d e f"), "0+1");
        Check.is("a digit in a WORD", read(0, "1,2,a1"), "0+1");
        Check.is("a tag sign in a WORD", read(0, "1,2,a<"), "0+1");
        Check.is("one comma", read(0, "1,a"), "0+1");
        Check.is("three commas", read(0, "1,2,a,"), "0+1");
        Check.is("several", read(0, "1,2,a;;x".replace('x', ':') + ";2,3,b;4"), "2+2");
        Newsfold x = Check.fetched("5,030,  ab   cd ;");
        Check.is("its text", x.text(0), "ab cd");
        Check.is("its TIME", x.ofItem(0, 2), 30);
    }

    private static void tags() {
        Check.is("an empty page", read(1, ""), "0+0");
        Check.is("no tag", read(1, "a,b;>/1"), "0+0");
        Check.is("one entry", read(1, "<a/2>"), "1+0");
        Check.is("one entry with NAME", read(1, "<a/2/3>"), "1+0");
        Check.is("an empty NAME", read(1, "<a/2/>"), "0+1");
        Check.is("an empty TIME", read(1, "<a/>"), "0+1");
        Check.is("empty WORDS", read(1, "</2>"), "0+1");
        Check.is("blanks for WORDS", read(1, "<  /2>"), "0+1");
        Check.is("one part", read(1, "<a>"), "0+1");
        Check.is("no part", read(1, "<>"), "0+1");
        Check.is("four parts", read(1, "<a/2/3/>"), "0+1");
        Check.is("NAME 99", read(1, "<a/2/0099>"), "1+0");
        Check.is("NAME 100", read(1, "<a/2/100>"), "0+1");
        Check.is("TIME 10000", read(1, "<a/10000/1>"), "0+1");
        Check.is("a blank in a NUMBER", read(1, "<a/2 >"), "0+1");
        Check.is("six WORDS", read(1, "<a b c d e f/1>"), "0+1");
        Check.is("five WORDS and blanks", read(1, "< a b  c d e /1>"), "1+0");
        Check.is("never closed", read(1, "<a/2"), "0+1");
        Check.is("opened at the end", read(1, "<a/2><"), "1+1");
        Check.is("opened twice", read(1, "<a/1<b/2>"), "1+1");
        Check.is("opened three times", read(1, "<<<b/2>"), "1+2");
        Check.is("opened twice, never closed", read(1, "<a<b"), "0+2");
        Check.is("closed twice", read(1, "<a/1>><b/2>>"), "2+0");
        Check.is("outside does not matter", read(1, "a;<a/1>,4/<b/2>:"), "2+0");
    }

    private static void names() {
        Newsfold x = Check.fetched(",1,cd;,1,a;,1,h ab;7,1,cd");
        Check.is("NAME of cd", x.ofItem(0, 1), 125);
        Check.is("NAME of a", x.ofItem(1, 1), 101);
        Check.is("NAME of h ab", x.ofItem(2, 1), 100 + ((8 * 7 * 7 % 97 + 1) * 7 + 2) % 97);
        Check.is("a NAME of its own", x.ofItem(3, 1), 7);
        Check.is("four ITEMS", x.house(2), 4);
    }

    private static void newer() {
        Newsfold x = Check.fetched("1,50,b;1,50,a;1,50,b;1,49,c;1,50,ba");
        Check.is("it came and became another once", x.fetched(0), "0@0:1+1!0");
        Check.is("greater with more signs", x.text(0) + x.ofItem(0, 4) + x.ofItem(0, 5), "ba12");
        Check.put(x, 0, "1,51,ba");
        Check.is("a greater TIME alone", x.fetch(0), 1);
        Check.is("CHANGE of it", x.ofItem(0, 4) + " " + x.ofItem(0, 5), "2 1");
        Check.put(x, 0, "1,52,a b");
        x.fetch(0);
        Check.is("CHANGE of both", x.ofItem(0, 4) + " " + x.ofItem(0, 5) + x.text(0), "3 3a b");
        Check.put(x, 0, "1,52,aa");
        Check.is("a letter is more than a blank", x.fetch(0) + x.text(0), "1aa");
        Check.put(x, 0, "1,52,a c");
        Check.is("a blank is less than a letter", x.fetch(0) + x.text(0), "0aa");
        Check.is("all of it is one ITEM", x.house(2), 1);
        x.feed(0);
        Check.put(x, 1, "1,1,a");
        Check.is("the same NAME in another FEED", x.fetch(1) + " " + x.house(2), "1 2");
    }

    private static void room() {
        Newsfold x = new Newsfold();
        x.feed(0);
        for (int k = 0; k < 4; k++) {
            Check.put(x, 0, "");
            for (int i = 0; i < 11; i++) {
                x.write(0, k * 11 + i, 5, 1, -1, -1);
            }
            x.fetch(0);
        }
        Check.is("40 came, 4 found no room", x.fetched(0) + " " + x.house(2), "0@0:7+0!4 40");
        Check.is("FAULTS with regard to room", x.ofFeed(0, 6) + " " + x.ofFeed(0, 8), "4 0");
        Check.put(x, 0, "99,1,a");
        x.fetch(0);
        Check.is("an ENTRY without room is one all the same", x.ofFeed(0, 1) + " " + x.fetched(0), "30 0@0:0+0!1");
        Check.put(x, 0, "39,6,a");
        Check.is("an ITEM can still become another one", x.fetch(0), 1);
        for (int i = 0; i < 40; i++) {
            Check.is("numbers as they come", x.ofItem(i, 1), i);
        }
    }

    private static void fetch() {
        Newsfold x = new Newsfold();
        Check.index("fetch without FEEDS", x, () -> x.fetch(0));
        x.feed(0);
        Check.put(x, 0, "1,1,a;2,1,b;1,2,a;:");
        Check.is("NEW and CHANGED together", x.fetch(0), 3);
        Check.is("nothing new", x.fetch(0), 0);
        Check.index("fetch(-1)", x, () -> x.fetch(-1));
        Check.index("fetch(1)", x, () -> x.fetch(1));
        for (int d = 0; d < 3; d++) {
            x.upTo(d, 1);
        }
        x.tick(2);
        x.forget(0);
        Check.put(x, 0, "1,900,h;3,1,a");
        Check.is("what is GONE never comes back", x.fetch(0) + " " + x.find(0, 1) + " " + x.find(0, 3), "1 -9 2");
    }

    private static void gaps() {
        Newsfold x = new Newsfold();
        Check.type(x, "0:29;0:960;0:321;0:161;0:479");
        x.bring();
        for (int f = 0; f < 5; f++) {
            x.write(f, 1, 1, 1, -1, -1);
        }
        x.fetch(0);
        Check.is("half of it, at least 15", x.ofFeed(0, 1), 15);
        x.fetch(0);
        Check.is("twice of it", x.ofFeed(0, 1), 30);
        x.fetch(1);
        Check.is("half of 960", x.ofFeed(1, 1), 480);
        x.fetch(1);
        Check.is("twice of it, at most 480", x.ofFeed(1, 1), 480);
        x.fetch(2);
        Check.is("half of 321", x.ofFeed(2, 1), 160);
        Check.put(x, 3, ":");
        x.fetch(3);
        Check.is("thrice of it", x.ofFeed(3, 1), 483);
        x.fetch(3);
        Check.is("thrice of it, at most 960", x.ofFeed(3, 1), 960);
        Check.put(x, 3, "");
        x.fetch(3);
        Check.is("nothing at all: 480 even from 960 on", x.ofFeed(3, 1), 480);
        x.fetch(4);
        Check.put(x, 4, "1,1,a;:");
        x.fetch(4);
        Check.is("a FAULT beside an ENTRY", x.ofFeed(4, 1), 478);
        x.tick(1);
        x.fetch(0);
        Check.is("DUE at CLOCK + GAP", x.ofFeed(0, 2), 61);
    }

    private static void tick() {
        Newsfold x = new Newsfold();
        Check.argument("tick(0)", x, () -> x.tick(0));
        Check.argument("tick(601)", x, () -> x.tick(601));
        Check.argument("tick of the least", x, () -> x.tick(Integer.MIN_VALUE));
        Check.argument("tick of the most", x, () -> x.tick(Integer.MAX_VALUE));
        Check.is("tick without FEEDS", x.tick(600) + " " + x.house(3), "0 600");
        x.feed(0);
        x.feed(0);
        x.fetch(1);
        Check.is("one that is DUE", x.tick(1) + " " + x.fetched(0), "1 0@601:0+0!0");
        x.feed(1);
        x.tick(118);
        Check.is("DUE first, then by number", x.fetched(0) + x.fetched(1), "2@602:0+0!0" + "0@601:0+0!0");
        Check.is("tick to 720", x.tick(1) + " " + x.fetched(0), "1 1@720:0+0!0");
        x.tick(1);
        Check.is("tick to 721", x.fetched(0), "0@721:0+0!0");
        x.tick(1);
        Check.is("tick to 722", x.fetched(0), "2@722:0+0!0");
        Newsfold y = new Newsfold();
        y.feed(0);
        y.tick(1);
        y.feed(0);
        y.feed(0);
        y.tick(119);
        y.feed(1);
        Check.is("of several", y.tick(1), 2);
        Check.is("that of 120 ahead of that of 121", y.fetched(1) + y.fetched(0), "3@121:0+0!0" + "0@121:0+0!0");
        Newsfold z = new Newsfold();
        for (int i = 0; i < 33; i++) {
            z.tick(600);
        }
        Check.state("CLOCK above 20000", z, () -> z.tick(201));
        Check.argument("CLOCK above 20000 by 601", z, () -> z.tick(601));
        Check.is("CLOCK 20000", z.tick(200) + z.house(3), 20000);
        Check.state("CLOCK 20001", z, () -> z.tick(1));
    }

    private static void ofFeed() {
        Newsfold x = new Newsfold();
        x.tick(5);
        x.feed(0);
        x.feed(1);
        Check.put(x, 0, "1,1,a;2,1,b;:;3,1");
        x.tick(1);
        for (int d = 0; d < 3; d++) {
            x.mark(d, 0, 0, 1);
        }
        x.forget(0);
        x.fetch(0);
        Check.put(x, 0, "1,1,a;:");
        int[] due = {0, 60, 66, 2, 1, 2, 4, 1, 1};
        for (int what = 0; what < due.length; what++) {
            Check.is("ofFeed(0, " + what + ")", x.ofFeed(0, what), due[what]);
        }
        int[] other = {1, 120, 126, 1, 0, 0, 0, 0, 0};
        for (int what = 0; what < other.length; what++) {
            Check.is("ofFeed(1, " + what + ")", x.ofFeed(1, what), other[what]);
        }
        Check.index("ofFeed(2, 9)", x, () -> x.ofFeed(2, 9));
        Check.index("ofFeed(-1, 0)", x, () -> x.ofFeed(-1, 0));
        Check.argument("ofFeed(0, 9)", x, () -> x.ofFeed(0, 9));
        Check.argument("ofFeed(0, -1)", x, () -> x.ofFeed(0, -1));
    }

    private static void fetched() {
        Newsfold x = new Newsfold();
        x.feed(0);
        Check.is("fetched without one", x.fetched(0), "");
        Check.put(x, 0, "1,1,a;1,2,b;2,2,b;::;3");
        x.tick(60);
        Check.is("fetched", x.fetched(0), "0@31:0+0!2");
        Check.is("the one before", x.fetched(1), "0@1:2+1!2");
        for (int i = 0; i < 4; i++) {
            x.fetch(0);
        }
        Check.is("the sixth", x.fetched(5), "0@1:2+1!2");
        Check.is("the seventh", x.fetched(6), "");
        x.fetch(0);
        Check.is("the sixth goes", x.fetched(5), "0@31:0+0!2");
        Check.is("far behind", x.fetched(Integer.MAX_VALUE), "");
        Check.argument("fetched(-1)", x, () -> x.fetched(-1));
    }
}
