/** Promises 1 to 10: a new object, TYPED, FEEDS and their PAGES. */
final class TextTests {
    private TextTests() { }

    static void run() {
        newObject();
        say();
        typed();
        feed();
        bring();
        out();
        put();
        write();
        poke();
        page();
    }

    private static void newObject() {
        Newsfold x = new Newsfold();
        for (int what = 0; what < 12; what++) {
            Check.is("new: house(" + what + ")", x.house(what), 0);
        }
        for (int desk = 0; desk < 3; desk++) {
            for (int what = 0; what < 10; what++) {
                Check.is("new: ofDesk(" + desk + ", " + what + ")", x.ofDesk(desk, what), what < 8 ? 0 : 480);
            }
            for (int view = 0; view < 10; view++) {
                Check.is("new: list", x.list(desk, view), "");
            }
            Check.is("new: morning", x.morning(desk, 0), "");
        }
        Check.is("new: texts", x.typed() + x.out() + x.shown() + x.fetched(0) + x.would(0), "");
        Check.index("new: fetch", x, () -> x.fetch(0));
        Check.index("new: text", x, () -> x.text(0));
        Check.is("new: isSound", x.isSound(), true);
    }

    private static void say() {
        Newsfold x = new Newsfold();
        Check.is("say six", x.say(0, 7, 8, 9, 18, 19), 6);
        Check.is("say the others", x.say(20, 21, 22, 23, 24, 6), 12);
        Check.is("typed after say", x.typed(), "ah 09;,<>/:g");
        Check.is("say nothing", x.say(-1, -1, -1, -1, -1, -1), 12);
        Check.is("say takes away", x.say(25, 25, 1, 25, -1, 2), 11);
        Check.is("typed after taking away", x.typed(), "ah 09;,<>/c");
        Check.is("say empties", x.say(3, 26, 4, -1, -1, 5), 2);
        Check.is("typed after emptying", x.typed(), "ef");
        Check.is("say takes away from nothing", x.say(25, 25, 25, 0, -1, -1), 1);
        Check.is("typed after taking away from nothing", x.typed(), "a");
        for (int i = 0; i < 6; i++) {
            int place = i;
            Check.argument("say -2 at " + i, x, () -> sayAt(x, place, -2));
            Check.argument("say 27 at " + i, x, () -> sayAt(x, place, 27));
        }
        for (int i = 0; i < 19; i++) {
            x.say(0, 1, 2, 3, 4, 5);
        }
        Check.is("115 signs", x.house(6), 115);
        Check.state("say to 121", x, () -> x.say(0, 0, 0, 0, 0, 0));
        Check.is("say to 120", x.say(0, 0, 0, 0, 0, -1), 120);
        Check.state("say to 121 at some moment", x, () -> x.say(0, 25, 26, -1, -1, -1));
        Check.argument("say wrongly and too much", x, () -> x.say(0, 0, 0, 0, 0, 27));
        Check.is("say at 120: away and again", x.say(25, 0, 25, 1, -1, -1), 120);
        Check.state("say from 120 on", x, () -> x.say(0, 25, -1, -1, -1, -1));
        Check.state("say at 120: away and two", x, () -> x.say(25, 0, 0, -1, -1, -1));
        Check.state("say at 120: the last one is too much", x, () -> x.say(25, 0, 25, 0, -1, 0));
        Check.is("say 26 at 120", x.say(26, -1, -1, -1, -1, -1), 0);
    }

    private static int sayAt(Newsfold x, int place, int code) {
        int[] c = {1, 1, 1, 1, 1, 1};
        c[place] = code;
        return x.say(c[0], c[1], c[2], c[3], c[4], c[5]);
    }

    private static void typed() {
        Newsfold x = new Newsfold();
        Check.is("typed at first", x.typed(), "");
        String all = "abcdefgh 0123456789;,<>/:";
        for (int i = 0; i < all.length(); i++) {
            x.say(i, -1, -1, -1, -1, -1);
        }
        Check.is("typed: every sign", x.typed(), all);
    }

    private static void feed() {
        Newsfold x = new Newsfold();
        Check.argument("feed(-1)", x, () -> x.feed(-1));
        Check.argument("feed(2)", x, () -> x.feed(2));
        Check.is("feed(0)", x.feed(0), 0);
        x.tick(7);
        Check.is("feed(1)", x.feed(1), 1);
        Check.is("its FORM, GAP, DUE", x.ofFeed(1, 0) + " " + x.ofFeed(1, 1) + " " + x.ofFeed(1, 2), "1 60 7");
        Check.is("its PAGE", x.page(1), "");
        x.feed(0);
        x.feed(0);
        Check.is("the fifth", x.feed(1), 4);
        Check.state("the sixth", x, () -> x.feed(0));
        Check.argument("the sixth with a wrong FORM", x, () -> x.feed(2));
    }

    private static int brought(String text) {
        Newsfold x = new Newsfold();
        Check.type(x, text);
        int got = x.bring();
        Check.is("bring of " + text + ": typed stays", x.typed(), text);
        Check.is("bring of " + text + ": house(0)", x.house(0), Math.max(got, 0));
        return got;
    }

    private static void bring() {
        Check.is("bring of nothing", brought(""), 0);
        Check.is("bring of empty pieces", brought(";;"), 0);
        Check.is("bring two", brought(";0:15;;1:960;"), 2);
        Check.is("bring with 0s ahead", brought("00:0015;01:000960"), 2);
        Check.is("bring GAP 14", brought("0:15;0:14"), -101);
        Check.is("bring GAP 961", brought("0:961"), -100);
        Check.is("bring FORM 2", brought(";;0:60;;2:60"), -101);
        Check.is("bring without a FORM", brought(":60"), -100);
        Check.is("bring without a GAP", brought("0:"), -100);
        Check.is("bring without a colon", brought("0:20;0:20;060"), -102);
        Check.is("bring with two colons", brought("0:60:"), -100);
        Check.is("bring with a blank", brought("0: 60"), -100);
        Check.is("bring with a letter", brought("0:60a"), -100);
        Check.is("bring a GAP of many digits", brought("0:99999999999999999999"), -100);
        Check.is("bring a GAP that wraps around", brought("0:4294967356"), -100);
        Check.is("bring five", brought("0:15;0:15;0:15;0:15;0:15"), 5);
        Check.is("bring six", brought("0:15;0:15;0:15;0:15;0:15;1:15"), -4);
        Check.is("bring six, the last one bad", brought("0:15;0:15;0:15;0:15;0:15;1:1"), -105);
        Newsfold x = new Newsfold();
        x.tick(9);
        x.feed(1);
        Check.type(x, "1:77");
        x.bring();
        Check.is("brought FORM, GAP, DUE", x.ofFeed(1, 0) + " " + x.ofFeed(1, 1) + " " + x.ofFeed(1, 2), "1 77 9");
    }

    private static void out() {
        Newsfold x = new Newsfold();
        Check.is("out without FEEDS", x.out(), "");
        x.feed(1);
        Check.is("out of one", x.out(), "1:60");
        Check.type(x, "0:15;0:960");
        x.bring();
        x.fetch(1);
        Check.is("out of three", x.out(), "1:60;0:30;0:960");
    }

    private static void put() {
        Newsfold x = new Newsfold();
        x.feed(0);
        x.feed(1);
        Check.type(x, "1,2,ab;");
        Check.is("put", x.put(1), 0);
        Check.is("put: typed stays", x.typed(), "1,2,ab;");
        Check.is("put: page", x.page(1) + "|" + x.page(0), "1,2,ab;|");
        x.say(0, -1, -1, -1, -1, -1);
        Check.is("page is no TYPED", x.page(1), "1,2,ab;");
        Check.is("put again", x.put(1), 7);
        Check.is("put again: page", x.page(1), "1,2,ab;a");
        Check.index("put(-1)", x, () -> x.put(-1));
        Check.index("put(2)", x, () -> x.put(2));
    }

    private static void write() {
        Newsfold x = new Newsfold();
        x.feed(0);
        x.feed(1);
        Check.is("write in FORM 0", x.write(0, 7, 120, 0, 10, 63), 15);
        Check.is("write in FORM 0 without NAME", x.write(0, -1, 0, 9, -1, -1), 21);
        Check.is("write in FORM 0: the third as second", x.write(0, 99, 9999, 9, -1, 2), 35);
        Check.is("page of FORM 0", x.page(0), "7,120,aa bc hh;,0,bb;99,9999,bb ac;");
        Check.is("write in FORM 1", x.write(1, 0, 5, 8, 1, -1), 11);
        Check.is("write in FORM 1 without NAME", x.write(1, -1, 10, 8, 1, 2), 24);
        Check.is("page of FORM 1", x.page(1), "<ba ab/5/0><ba ab ac/10>");
        Check.index("write to no FEED", x, () -> x.write(2, -2, 0, 0, -1, -1));
        Check.index("write to FEED -1", x, () -> x.write(-1, 0, 0, 0, -1, -1));
        Check.argument("write NAME -2", x, () -> x.write(0, -2, 0, 0, -1, -1));
        Check.argument("write NAME 100", x, () -> x.write(0, 100, 0, 0, -1, -1));
        Check.argument("write TIME -1", x, () -> x.write(0, 0, -1, 0, -1, -1));
        Check.argument("write TIME 10000", x, () -> x.write(0, 0, 10000, 0, -1, -1));
        Check.argument("write a NONE", x, () -> x.write(0, 0, 0, -1, -1, -1));
        Check.argument("write a 64", x, () -> x.write(0, 0, 0, 64, -1, -1));
        Check.argument("write b -2", x, () -> x.write(0, 0, 0, 0, -2, -1));
        Check.argument("write b 64", x, () -> x.write(0, 0, 0, 0, 64, -1));
        Check.argument("write c -2", x, () -> x.write(0, 0, 0, 0, -1, -2));
        Check.argument("write c 64", x, () -> x.write(0, 0, 0, 0, -1, 64));
        for (int i = 0; i < 11; i++) {
            x.write(1, 10, 1000, 0, 1, 2);
        }
        Check.is("a PAGE takes what it can", x.page(1).length(), 24 + 9 * 18);
        Check.is("write less", x.write(1, 1, 1, 0, -1, -1), 194);
        Check.is("write too much", x.write(1, 1, 1, 0, -1, -1), -4);
        Check.is("it left the page", x.page(1).length(), 194);
        Check.is("write to 200", x.write(1, -1, 1, 0, -1, -1), 200);
        Check.is("write at 200", x.write(1, -1, 1, 0, -1, -1), -4);
    }

    private static void poke() {
        Newsfold x = new Newsfold();
        x.feed(0);
        Check.index("poke an empty PAGE", x, () -> x.poke(0, 0, 0));
        Check.put(x, 0, "1,20,ab;");
        Check.is("poke the first", x.poke(0, 0, 24), 10);
        Check.is("poke the last", x.poke(0, 7, 0), 19);
        Check.is("poke a blank", x.poke(0, 5, 8), 0);
        Check.is("poke a blank away", x.poke(0, 5, 7), 8);
        Check.is("page after poke", x.page(0), ":,20,hba");
        Check.is("poke leaves TYPED", x.typed(), "1,20,ab;");
        Check.index("poke place 8", x, () -> x.poke(0, 8, 0));
        Check.index("poke place -1", x, () -> x.poke(0, -1, 25));
        Check.index("poke FEED 1", x, () -> x.poke(1, 0, 0));
        Check.argument("poke code 25", x, () -> x.poke(0, 0, 25));
        Check.argument("poke code -1", x, () -> x.poke(0, 0, -1));
    }

    private static void page() {
        Newsfold x = new Newsfold();
        x.feed(0);
        Check.is("page at first", x.page(0), "");
        Check.put(x, 0, "<a b/7/3>:");
        Check.is("page", x.page(0), "<a b/7/3>:");
        Check.index("page(1)", x, () -> x.page(1));
        Check.index("page(-1)", x, () -> x.page(-1));
    }
}
