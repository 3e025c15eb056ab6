/** Each sentence of promises 1 to 10 that names an edge: one method each. */
final class TextCallEdges {
    private TextCallEdges() { }

    static void run() {
        newObject();
        takenAwayAndEmptied();
        eachPlaceOfSay();
        signsThen();
        sayOutside();
        sayTooMuch();
        typed();
        newFeed();
        feedsNumber();
        feedForm();
        feedsAreFive();
        broughtForm();
        broughtGap();
        broughtAsByFeed();
        howManyCame();
        firstBadPiece();
        broughtWithoutRoom();
        out();
        typedStays();
        signsBefore();
        putWhere();
        written();
        writtenName();
        writtenTime();
        writtenFirstWord();
        writtenSecondWord();
        writtenThirdWord();
        writtenTooMuch();
        writtenWhere();
        writtenWrong();
        pokedFeed();
        pokedPlace();
        pokedCode();
        wasThere();
        page();
        pageOfWhat();
    }

    private static void newObject() {
        Sentence.of(1, "Creates desks without feeds.");
        Newsfold x = new Newsfold();
        for (int what = 0; what < 12; what++) {
            Check.is("new: house(" + what + ")", x.house(what), 0);
        }
        for (int desk = 0; desk < 3; desk++) {
            for (int what = 0; what < 10; what++) {
                Check.is("new: ofDesk(" + desk + ", " + what + ")", x.ofDesk(desk, what), what < 8 ? 0 : 480);
            }
            for (int view = 0; view < 10; view++) {
                Check.is("new: LIST", x.list(desk, view), "");
            }
        }
        Check.is("new: each text is empty", x.typed() + x.out() + x.fetched(0) + x.shown() + x.would(0) + x.morning(0, 0)
            + x.search(0, -1), "");
        Check.is("new: nothing to count", x.unlike() + x.hours(-1, 0) + x.bring(), 0);
        Check.is("new: sound", x.isSound(), true);
        Edge.index("new: no FEED", Newsfold::new, y -> y.page(0));
        Edge.index("new: no ITEM", Newsfold::new, y -> y.text(0));
        Edge.index("new: no RULE", Newsfold::new, y -> y.unrule(0));
        Edge.index("new: no LETTER", Newsfold::new, y -> y.lose(0));
        Edge.state("new: no STEP", Newsfold::new, y -> y.undo(0));
        x.knock();
        x.feed(0);
        Check.is("another one is new", new Newsfold().house(0) + new Newsfold().house(11), 0);
    }

    private static String said(Newsfold x, int... codes) {
        return x.say(codes[0], codes[1], codes[2], codes[3], codes[4], codes[5]) + x.typed();
    }

    private static void takenAwayAndEmptied() {
        Sentence.of(2, "25 takes its last SIGN away (if there is one), 26 empties it.");
        Check.is("away from none", said(new Newsfold(), 25, 25, 25, 25, 25, 25), "0");
        Check.is("away from none, then one", said(new Newsfold(), 25, 0, -1, -1, -1, -1), "1a");
        Check.is("away from one", said(new Newsfold(), 0, 25, -1, -1, -1, -1), "0");
        Check.is("more away than there are", said(new Newsfold(), 0, 25, 25, 1, 25, 2), "1c");
        Check.is("the last one, not the first", said(new Newsfold(), 0, 1, 2, 25, -1, -1), "2ab");
        Check.is("none is emptied", said(new Newsfold(), 26, 26, -1, -1, -1, -1), "0");
        Check.is("some are emptied", said(new Newsfold(), 0, 1, 2, 26, -1, 3), "1d");
        Check.is("120 are emptied", said(TextEdges.fullTyped(), 26, -1, -1, -1, -1, -1), "0");
        Check.is("one of 120", said(TextEdges.fullTyped(), 25, -1, -1, -1, -1, -1), "119" + "abcdef".repeat(20).substring(0, 119));
    }

    /** Six codes, all of them 1 but for one. */
    private static String sayAt(Newsfold x, int place, int code) {
        int[] codes = {1, 1, 1, 1, 1, 1};
        codes[place] = code;
        return said(x, codes);
    }

    private static void eachPlaceOfSay() {
        Sentence.of(2, "- `a`: a code, or NONE for nothing");
        for (char argument : "bcdef".toCharArray()) {
            Sentence.of(2, "- `" + argument + "`: likewise");
        }
        String[] first = {"6abbbbb", "6babbbb", "6bbabbb", "6bbbabb", "6bbbbab", "6bbbbba"};
        for (int i = 0; i < 6; i++) {
            int place = i;
            Check.is("NONE at " + i, sayAt(new Newsfold(), i, -1), "5bbbbb");
            Check.is("0 at " + i, sayAt(new Newsfold(), i, 0), first[i]);
            Check.is("24 at " + i, sayAt(new Newsfold(), i, 24), first[i].replace('a', ':'));
            Check.is("26 at " + i, sayAt(new Newsfold(), i, 26), (5 - i) + "bbbbb".substring(i));
            Edge.arguments("say at " + i, Edge::rich, -1, 26, (x, n) -> sayAt(x, place, n));
        }
    }

    private static void signsThen() {
        Sentence.of(2, "Returns how many SIGNS it has then.");
        Check.is("none", new Newsfold().say(-1, -1, -1, -1, -1, -1), 0);
        Check.is("six", new Newsfold().say(0, 0, 0, 0, 0, 0), 6);
        Newsfold x = TextEdges.fullTyped();
        Check.is("120", x.say(-1, -1, -1, -1, -1, -1), 120);
        Check.is("as house() of 6", x.say(25, 25, -1, -1, -1, -1), x.house(6));
    }

    private static void sayOutside() {
        Sentence.of(2, "Throws `IllegalArgumentException` if one is not -1 to 26");
        Edge.argument("the last one alone", Edge::rich, x -> x.say(0, 1, 26, 3, 4, 27));
        Edge.argument("ahead of what is too much", TextEdges::fullTyped, x -> x.say(0, -1, -1, -1, -1, -2));
        Edge.argument("all of them", Edge::rich, x -> x.say(27, 27, 27, -2, -2, -2));
    }

    private static void sayTooMuch() {
        Sentence.of(2, "Throws `IllegalStateException` if it would have more than 120 at some moment");
        Check.is("118 and two", typed118().say(0, 0, -1, -1, -1, -1), 120);
        Edge.state("118 and three", TextCallEdges::typed118, x -> x.say(0, 0, 0, -1, -1, -1));
        Edge.state("taken away later", TextCallEdges::typed118, x -> x.say(0, 0, 0, 25, 25, 25));
        Edge.state("emptied later", TextCallEdges::typed118, x -> x.say(0, 0, 0, 26, -1, -1));
        Check.is("taken away ahead of it", typed118().say(0, 0, 25, 0, 25, 0), 120);
        Check.is("emptied ahead of it", typed118().say(0, 0, 26, 0, 0, 0), 3);
        Edge.state("at the last moment", TextCallEdges::typed118, x -> x.say(0, 0, 25, 0, -1, 0));
        Check.is("nothing behind 120", TextEdges.fullTyped().say(-1, -1, -1, -1, -1, -1), 120);
        Check.is("six of 120 away", TextEdges.fullTyped().say(25, 25, 25, 25, 25, 25), 114);
    }

    private static Newsfold typed118() {
        Newsfold x = TextEdges.fullTyped();
        x.say(25, 25, -1, -1, -1, -1);
        return x;
    }

    private static void typed() {
        Sentence.of(3, "Returns TYPED.");
        Check.is("an empty one", new Newsfold().typed(), "");
        Check.is("a full one", TextEdges.fullTyped().typed(), "abcdef".repeat(20));
        Edge.asks("typed()", Edge::rich, Newsfold::typed);
    }

    private static void newFeed() {
        Sentence.of(4, "A FEED with an empty PAGE comes, with the GAP 60, DUE at CLOCK.");
        Newsfold x = TextEdges.typed(new Newsfold(), "1,1,a;");
        x.feed(0);
        x.tick(600);
        x.feed(1);
        Check.is("PAGE, whatever TYPED is", x.page(0) + x.page(1), "");
        Check.is("FORM, GAP, DUE", x.ofFeed(1, 0) + " " + x.ofFeed(1, 1) + " " + x.ofFeed(1, 2), "1 60 600");
        Check.is("nothing was FETCHED, nothing came", x.ofFeed(1, 3) + x.ofFeed(1, 4) + x.ofFeed(1, 5) + x.ofFeed(1, 6), 0);
        Newsfold y = new Newsfold();
        y.feed(0);
        Check.is("DUE at 0, FETCHED in the first minute", y.ofFeed(0, 2) + " " + y.tick(1) + " " + y.ofFeed(0, 3), "0 1 1");
    }

    private static void feedsNumber() {
        Sentence.of(4, "Returns its number.");
        Newsfold x = new Newsfold();
        Check.is("from 0 to 4", x.feed(0) + " " + x.feed(1) + " " + x.feed(1) + " " + x.feed(0) + " " + x.feed(0), "0 1 2 3 4");
    }

    private static void feedForm() {
        Sentence.of(4, "Throws `IllegalArgumentException` if form is not 0 or 1");
        Edge.arguments("feed", Edge::rich, 0, 1, Newsfold::feed);
        Edge.argument("ahead of five FEEDS", TextEdges::fiveAreThere, x -> x.feed(2));
    }

    private static void feedsAreFive() {
        Sentence.of(4, "Throws `IllegalStateException` if there are 5");
        Edge.state("a sixth of FORM 0", TextEdges::fiveAreThere, x -> x.feed(0));
        Edge.state("a sixth of FORM 1", TextEdges::fiveAreThere, x -> x.feed(1));
    }

    private static int brought(String text) {
        return TextEdges.typed(new Newsfold(), text).bring();
    }

    private static void broughtForm() {
        Sentence.of(5, "each a NUMBER of 0 to 1 (FORM), \":\"");
        Check.is("0, 1, 2", brought("0:60") + " " + brought("1:60") + " " + brought("2:60"), "1 1 -100");
        Check.is("with 0s ahead", brought("0001:60") + " " + brought("000:60"), "1 1");
        Check.is("none, a blank, a letter", brought(":60") + " " + brought(" :60") + " " + brought("a:60"), "-100 -100 -100");
        Check.is("one that would wrap around", brought("4294967296:60") + " " + brought("4294967297:60"), "-100 -100");
        Check.is("no colon, two of them", brought("060") + " " + brought("0:60:") + " " + brought("0::60"), "-100 -100 -100");
        Check.is("another sign for the colon", brought("0,60") + " " + brought("0/60"), "-100 -100");
    }

    private static void broughtGap() {
        Sentence.of(5, "a NUMBER of 15 to 960 (GAP)");
        Check.is("14, 15, 960, 961", brought("0:14") + " " + brought("0:15") + " " + brought("0:960") + " " + brought("0:961"),
            "-100 1 1 -100");
        Check.is("with 0s ahead", brought("0:000015") + " " + brought("0:00960") + " " + brought("0:0014"), "1 1 -100");
        Check.is("none, a blank, a letter", brought("0:") + " " + brought("0: 60") + " " + brought("0:60a"), "-100 -100 -100");
        Check.is("one that would wrap around", brought("0:4294967356") + " " + brought("0:18446744073709551676"), "-100 -100");
        Check.is("one of 100 digits", brought("0:" + "1".repeat(100)), -100);
    }

    private static void broughtAsByFeed() {
        Sentence.of(5, "for each one a FEED comes, as by feed(), but with that GAP.");
        Newsfold x = new Newsfold();
        x.feed(1);
        x.tick(9);
        Check.type(x, "1:15;0:960");
        x.bring();
        Check.is("the first", x.ofFeed(1, 0) + " " + x.ofFeed(1, 1) + " " + x.ofFeed(1, 2) + x.page(1), "1 15 9");
        Check.is("the second", x.ofFeed(2, 0) + " " + x.ofFeed(2, 1) + " " + x.ofFeed(2, 2) + x.page(2), "0 960 9");
        Check.is("TYPED stays", x.typed(), "1:15;0:960");
        Check.is("once more", x.bring() + x.out(), "21:120;1:15;0:960;1:15;0:960");
    }

    private static void howManyCame() {
        Sentence.of(5, "Returns how many came");
        Edge.leaves("none, of nothing", () -> TextEdges.typed(Edge.rich(), ""), 0, Newsfold::bring);
        Edge.leaves("none, of empty PIECES", () -> TextEdges.typed(Edge.rich(), ";;;"), 0, Newsfold::bring);
        Edge.leaves("none beside five", () -> TextEdges.typed(TextEdges.fiveAreThere(), ";"), 0, Newsfold::bring);
        Check.is("one, two, with empty ones round them", brought("0:15") + " " + brought(";;0:15;;1:15;;"), "1 2");
        Check.is("five", brought("0:15;0:15;0:15;0:15;0:15"), 5);
    }

    private static void firstBadPiece() {
        Sentence.of(5, "-100 less the number of the first PIECE that is not so (from 0 on, without empty ones; then none comes)");
        String[] texts = {"a", " ", ";;a", "0:60;a;b", "0:60;;;0:60;0:1", "0:15;0:15;0:15;0:15;0:15;a"};
        int[] due = {-100, -100, -100, -101, -102, -105};
        for (int i = 0; i < texts.length; i++) {
            String text = texts[i];
            Edge.leaves("bring() of " + text, () -> TextEdges.typed(Edge.rich(), text), due[i], Newsfold::bring);
        }
        Check.is("the 24th of 24", brought("0:15;".repeat(23) + "a"), -123);
        Check.is("ahead of no room", brought("0:15;".repeat(5) + "a;" + "0:15;"), -105);
    }

    private static void broughtWithoutRoom() {
        Sentence.of(5, "otherwise -4, if there would be more than 5.");
        Edge.leaves("six at once", () -> TextEdges.typed(new Newsfold(), "0:15;".repeat(6)), -4, Newsfold::bring);
        Edge.leaves("24 at once", () -> TextEdges.typed(new Newsfold(), "0:15;".repeat(24)), -4, Newsfold::bring);
        Edge.leaves("three beside three", () -> TextEdges.typed(Edge.rich(), "0:15;0:15;0:15"), -4, Newsfold::bring);
        Check.is("two beside three", TextEdges.typed(Edge.rich(), "0:15;0:15").bring(), 2);
        Edge.leaves("one beside five", () -> TextEdges.typed(TextEdges.fiveAreThere(), "0:15"), -4, Newsfold::bring);
    }

    private static void out() {
        Sentence.of(6, "with \";\" between two; \"\" without FEEDS.");
        Newsfold x = new Newsfold();
        Check.is("without", x.out(), "");
        x.feed(1);
        Check.is("one", x.out(), "1:60");
        Check.type(x, "0:15;0:960;1:99;0:100");
        x.bring();
        Check.is("five", x.out(), "1:60;0:15;0:960;1:99;0:100");
        x.fetch(4);
        Check.is("GAP as it is now", x.out(), "1:60;0:15;0:960;1:99;0:200");
        Edge.asks("out()", Edge::rich, Newsfold::out);
    }

    private static void typedStays() {
        Sentence.of(7, "TYPED (which stays) becomes the PAGE of a FEED.");
        Newsfold x = TextEdges.fullTyped();
        x.put(2);
        Check.is("a full one", x.page(2) + x.typed(), "abcdef".repeat(40));
        x.say(26, -1, -1, -1, -1, -1);
        Check.is("a PAGE is no TYPED", x.page(2).length(), 120);
        x.put(2);
        Check.is("an empty one", x.page(2), "");
        Check.is("no other FEED", x.page(0), Edge.rich().page(0));
    }

    private static void signsBefore() {
        Sentence.of(7, "Returns how many SIGNS the PAGE had before.");
        Newsfold x = TextEdges.fullPage();
        Check.is("200", x.put(0), 200);
        Check.is("none", x.put(0), 0);
        Check.type(x, "a");
        Check.is("none, one", x.put(0) + " " + x.put(0), "0 1");
    }

    private static void putWhere() {
        Sentence.of(7, "Throws `IndexOutOfBoundsException` if there is no such FEED");
        Edge.indexes("put", Edge::rich, 0, 2, Newsfold::put);
        Edge.index("put without FEEDS", Newsfold::new, x -> x.put(0));
    }

    private static String writtenTo(int form, int... arguments) {
        Newsfold x = new Newsfold();
        x.feed(form);
        x.write(0, arguments[0], arguments[1], arguments[2], arguments[3], arguments[4]);
        return x.page(0);
    }

    private static void written() {
        Sentence.of(8, "An ENTRY is written behind the PAGE of a FEED, by its FORM: 0 the NAME (if there is one), \",\", the TIME, \",\","
            + " the WORDS, \";\"; 1 \"<\", the WORDS, \"/\", the TIME, \"/\" and the NAME if there is one, \">\""
            + " (WORDS with one blank between two, no 0s ahead of NUMBERS).");
        Check.is("FORM 0", writtenTo(0, 7, 9, 0, 1, 2) + writtenTo(0, -1, 0, 0, -1, -1), "7,9,aa ab ac;,0,aa;");
        Check.is("FORM 1", writtenTo(1, 7, 9, 0, 1, 2) + writtenTo(1, -1, 0, 0, -1, -1), "<aa ab ac/9/7><aa/0>");
        Newsfold x = Edge.rich();
        String before = x.page(0);
        x.write(0, 1, 2, 3, -1, -1);
        Check.is("behind the PAGE", x.page(0), before + "1,2,ad;");
        Check.is("an empty PAGE", x.write(2, 1, 2, 3, -1, -1) + x.page(2), "71,2,ad;");
    }

    private static void writtenName() {
        Sentence.of(8, "- `name`: the NAME; NONE for none");
        Check.is("FORM 0", writtenTo(0, -1, 1, 0, -1, -1) + writtenTo(0, 0, 1, 0, -1, -1) + writtenTo(0, 99, 1, 0, -1, -1),
            ",1,aa;0,1,aa;99,1,aa;");
        Check.is("FORM 1", writtenTo(1, -1, 1, 0, -1, -1) + writtenTo(1, 0, 1, 0, -1, -1) + writtenTo(1, 99, 1, 0, -1, -1),
            "<aa/1><aa/1/0><aa/1/99>");
    }

    private static void writtenTime() {
        Sentence.of(8, "time not 0 to 9999");
        Check.is("FORM 0", writtenTo(0, 1, 0, 0, -1, -1) + writtenTo(0, 1, 9999, 0, -1, -1), "1,0,aa;1,9999,aa;");
        Check.is("FORM 1", writtenTo(1, 1, 0, 0, -1, -1) + writtenTo(1, 1, 9999, 0, -1, -1), "<aa/0/1><aa/9999/1>");
    }

    private static void writtenFirstWord() {
        Sentence.of(8, "a not 0 to 63");
        Check.is("0 and 63", writtenTo(0, 1, 1, 0, -1, -1) + writtenTo(1, 1, 1, 63, -1, -1), "1,1,aa;<hh/1/1>");
    }

    private static void writtenSecondWord() {
        Sentence.of(8, "- `b`: the second one; NONE for none");
        Check.is("NONE, 0, 63", writtenTo(0, 1, 1, 1, -1, -1) + writtenTo(0, 1, 1, 1, 0, -1) + writtenTo(1, 1, 1, 1, 63, -1),
            "1,1,ab;1,1,ab aa;<ab hh/1/1>");
    }

    private static void writtenThirdWord() {
        Sentence.of(8, "- `c`: the third one (the second one, if b is NONE); NONE for none");
        Check.is("NONE, 0, 63", writtenTo(0, 1, 1, 1, 2, -1) + writtenTo(0, 1, 1, 1, 2, 0) + writtenTo(1, 1, 1, 1, 2, 63),
            "1,1,ab ac;1,1,ab ac aa;<ab ac hh/1/1>");
        Check.is("b is NONE", writtenTo(0, 1, 1, 1, -1, 0) + writtenTo(1, 1, 1, 1, -1, 63), "1,1,ab aa;<ab hh/1/1>");
    }

    private static void writtenTooMuch() {
        Sentence.of(8, "Returns how many SIGNS the PAGE has then; -4 if these would be more than 200.");
        Check.is("199", TextEdges.page(0, 24).write(0, 1, 1, 1, -1, -1), 199);
        Check.is("200", TextEdges.page(0, 24).write(0, 1, 10, 1, -1, -1) + " " + TextEdges.page(1, 24).write(0, 1, 1, 1, -1, -1),
            "200 200");
        Edge.leaves("201 in FORM 0", () -> TextEdges.page(0, 24), -4, x -> x.write(0, 1, 100, 1, -1, -1));
        Edge.leaves("201 in FORM 1", () -> TextEdges.page(1, 24), -4, x -> x.write(0, 1, 10, 1, -1, -1));
        Edge.leaves("far more", TextEdges::fullPage, -4, x -> x.write(0, 99, 9999, 1, 2, 3));
        Newsfold x = TextEdges.page(0, 24);
        x.write(0, 1, 100, 1, -1, -1);
        Check.is("a smaller one behind -4", x.write(0, -1, 100, 1, -1, -1) + x.page(0), "200" + ",100,ab;".repeat(25));
        Edge.argument("a wrong one without room", TextEdges::fullPage, y -> y.write(0, 1, 10000, 1, -1, -1));
    }

    private static void writtenWhere() {
        Sentence.of(8, "Throws `IndexOutOfBoundsException` if there is no such FEED");
        Edge.indexes("write to", Edge::rich, 0, 2, (x, n) -> x.write(n, 1, 1, 1, -1, -1));
        Edge.index("ahead of wrong arguments", Edge::rich, x -> x.write(3, -2, -1, -1, -2, -2));
        Edge.index("without FEEDS", Newsfold::new, x -> x.write(0, 1, 1, 1, -1, -1));
    }

    private static void writtenWrong() {
        Sentence.of(8, "Throws `IllegalArgumentException` if name is not -1 to 99, time not 0 to 9999, a not 0 to 63, or b or c not -1 to 63");
        for (int f = 0; f < 2; f++) {
            int feed = f;
            Edge.arguments("name", Edge::rich, -1, 99, (x, n) -> x.write(feed, n, 1, 1, 1, 1));
            Edge.arguments("time", Edge::rich, 0, 9999, (x, n) -> x.write(feed, 1, n, 1, 1, 1));
            Edge.arguments("a", Edge::rich, 0, 63, (x, n) -> x.write(feed, 1, 1, n, 1, 1));
            Edge.arguments("b", Edge::rich, -1, 63, (x, n) -> x.write(feed, 1, 1, 1, n, 1));
            Edge.arguments("c", Edge::rich, -1, 63, (x, n) -> x.write(feed, 1, 1, 1, 1, n));
        }
        Edge.argument("a NONE for the first WORD", Edge::rich, x -> x.write(0, 1, 1, -1, 1, 1));
    }

    private static void pokedFeed() {
        Sentence.of(9, "Throws `IndexOutOfBoundsException` if there is no such FEED, or no such place");
        Edge.indexes("poke FEED", TextCallEdges::threePages, 0, 2, (x, n) -> x.poke(n, 0, 0));
        Edge.index("an empty PAGE", Edge::rich, x -> x.poke(2, 0, 0));
        Edge.index("no FEED, ahead of a wrong code", Edge::rich, x -> x.poke(3, 0, 25));
        Edge.index("no place, ahead of a wrong code", Edge::rich, x -> x.poke(0, 200, 25));
    }

    private static Newsfold threePages() {
        Newsfold x = Edge.rich();
        Check.put(x, 2, "abc");
        return x;
    }

    private static void pokedPlace() {
        Sentence.of(9, "a place of its PAGE, from 0 on");
        Edge.indexes("poke place", TextCallEdges::threePages, 0, 2, (x, n) -> x.poke(2, n, 0));
        Edge.indexes("poke place of 200", TextEdges::fullPage, 0, 199, (x, n) -> x.poke(0, n, 0));
        Newsfold x = threePages();
        x.poke(2, 0, 24);
        x.poke(2, 2, 18);
        Check.is("the first and the last one", x.page(2), ":b9");
    }

    private static void pokedCode() {
        Sentence.of(9, "Throws `IllegalArgumentException` if code is not 0 to 24");
        Edge.arguments("poke code", Edge::rich, 0, 24, (x, n) -> x.poke(0, 0, n));
    }

    private static void wasThere() {
        Sentence.of(9, "Returns the code of that which was there.");
        Newsfold x = threePages();
        Check.is("0, then 24, then 24", x.poke(2, 0, 24) + " " + x.poke(2, 0, 24) + " " + x.poke(2, 0, 8) + " " + x.poke(2, 0, 0),
            "0 24 24 8");
        Sentence.of(9, "Changes a SIGN of a PAGE.");
        Check.is("that one, and no TYPED", x.page(2) + x.typed(), "abcabc");
    }

    private static void page() {
        Sentence.of(10, "Returns its PAGE.");
        Check.is("an empty one", Edge.rich().page(2), "");
        Check.is("a full one", TextEdges.fullPage().page(0).length(), 200);
        Edge.asks("page()", Edge::rich, x -> x.page(1));
    }

    private static void pageOfWhat() {
        Sentence.of(10, "Throws `IndexOutOfBoundsException` if there is no such FEED");
        Edge.indexes("page", Edge::rich, 0, 2, Newsfold::page);
        Edge.index("page without FEEDS", Newsfold::new, x -> x.page(0));
    }
}
