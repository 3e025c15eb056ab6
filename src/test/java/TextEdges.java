/** Each sentence of section 1 of the Description, and of promises 1 to 10, that names an edge: one method each. */
final class TextEdges {
    private TextEdges() { }

    static void run() {
        none();
        letCalls();
        signs();
        typedIsAtMost120();
        wordOfLetters();
        wordsByNumber();
        numbers();
        fiveFeeds();
        pageOf200();
        pieces();
        twoCommas();
        nameOfPiece();
        timeOfPiece();
        wordsOfPiece();
        otherPieces();
        overWithoutOpening();
        openedWithoutEnd();
        openedAgain();
        parts();
        emptyParts();
        numbersOfTags();
        otherTags();
        goesOnBehind();
        outside();
        textOfEntry();
        wholeWords();
        nameByText();
        comparedTexts();
    }

    private static void of(String words) {
        Sentence.of(Sentence.DESCRIPTION, words);
    }

    static Newsfold withFeed() {
        Newsfold x = new Newsfold();
        x.feed(0);
        return x;
    }

    private static void none() {
        of("NONE is -1.");
        Newsfold x = Edge.fetched(0, "1,60,aa");
        Check.is("NONE of a NAME that did not come", x.find(0, 2), -1);
        Check.is("NONE for a WORD and for a FEED", x.search(0, -1) + " " + x.hours(-1, 1), "0 1");
        Check.is("NONE for a NAME and for WORDS", x.write(0, -1, 1, 0, -1, -1), 13);
        Check.is("NONE for a code", x.say(-1, -1, -1, -1, -1, -1), 7);
    }

    private static void letCalls() {
        of("they tell -3 (a FAULT), -4 (no room) or -9 (else), and change nothing.");
        Edge.leaves("write() without room", TextEdges::fullPage, -4, x -> x.write(0, 1, 1, 0, -1, -1));
        Edge.leaves("bring() without room", () -> typed(withFeed(), "0:15;0:15;0:15;0:15;0:15"), -4, Newsfold::bring);
        Edge.leaves("bring() of what is no FEED", () -> typed(Edge.rich(), "0:60;1:1"), -101, Newsfold::bring);
        Edge.leaves("find() of what is GONE", Edge::rich, -9, x -> x.find(1, 7));
    }

    static Newsfold typed(Newsfold x, String text) {
        Check.type(x, text);
        return x;
    }

    private static void signs() {
        of("0 to 7 \"a\" to \"h\", 8 a blank, 9 to 18 \"0\" to \"9\", 19 \";\", 20 \",\", 21 \"<\", 22 \">\", 23 \"/\", 24 \":\".");
        String all = "abcdefgh 0123456789;,<>/:";
        for (int code = 0; code < 25; code++) {
            Newsfold x = withFeed();
            x.say(code, -1, -1, -1, -1, -1);
            Check.is("the SIGN " + code + " typed", x.typed(), all.charAt(code));
            x.put(0);
            Check.is("the SIGN " + code + " is the one that was there", x.poke(0, 0, 24 - code), code);
            Check.is("the SIGN " + (24 - code) + " poked", x.page(0), all.charAt(24 - code));
        }
    }

    private static void typedIsAtMost120() {
        of("TYPED is a text of at most 120 SIGNS (empty at first).");
        Newsfold x = new Newsfold();
        Check.is("TYPED at first", x.typed() + x.house(6), "0");
        for (int i = 0; i < 20; i++) {
            x.say(0, 1, 2, 3, 4, 5);
        }
        Check.is("120 SIGNS", x.typed().length() + " " + x.house(6), "120 120");
        Edge.state("the 121st", TextEdges::fullTyped, y -> y.say(0, -1, -1, -1, -1, -1));
    }

    static Newsfold fullTyped() {
        Newsfold x = Edge.rich();
        x.say(26, -1, -1, -1, -1, -1);
        for (int i = 0; i < 20; i++) {
            x.say(0, 1, 2, 3, 4, 5);
        }
        return x;
    }

    private static void wordOfLetters() {
        of("one or more letters \"a\" to \"h\".");
        Check.is("one letter", read(0, "1,1,a;2,1,h"), "2 0");
        Check.is("as many as there is room for", read(0, "1,1," + "abcdefgh".repeat(14)), "1 0");
        Check.is("no letter at all", read(0, "1,1,"), "0 1");
        Check.is("a digit behind a letter", read(0, "1,1,a0"), "0 1");
        Check.is("a digit between letters, one ahead", read(0, "1,1,a9b;2,1,0a"), "0 2");
        Check.is("other SIGNS in it", read(0, "1,1,a:;2,1,<a;3,1,a>;4,1,a/b"), "0 4");
    }

    private static void wordsByNumber() {
        of("w / 8 (rounded down) and w MOD 8 of \"abcdefgh\" (0 is \"aa\", 10 is \"bc\").");
        int[] words = {0, 7, 8, 10, 55, 56, 63};
        String[] due = {"aa", "ah", "ba", "bc", "gh", "ha", "hh"};
        for (int i = 0; i < words.length; i++) {
            Newsfold x = withFeed();
            x.write(0, 1, 1, words[i], -1, -1);
            Check.is("the WORD " + words[i], x.page(0), "1,1," + due[i] + ";");
            x.fetch(0);
            Check.is("the WORD " + words[i] + " is in that TEXT", x.search(words[i], -1), "0");
        }
    }

    private static void numbers() {
        of("one or more digits and nothing else (0s ahead do not matter).");
        Check.is("one digit", read(0, "0,0,a"), "1 0");
        Check.is("no digit", read(0, "1,,a") + "|" + read(1, "<a/>"), "0 1|0 1");
        Check.is("a blank ahead, behind, between", read(0, "1, 1,a;1,1 ,a;1,1 1,a"), "0 3");
        Check.is("a letter", read(0, "1,1a,a;a1,1,a"), "0 2");
        Check.is("a colon is no digit, a slash is none", read(0, "1,1:,a;/1,1,a"), "0 2");
        Newsfold x = Edge.fetched(0, "00000000000000000000000000000000000007,00000000000000000000000000000000000009999,a");
        Check.is("0s ahead", x.ofItem(0, 1) + " " + x.ofItem(0, 2), "7 9999");
        Check.is("only 0s", Edge.fetched(0, "000000000000000000000000,0000000000000000,a").ofItem(0, 1), 0);
        Check.is("2^31, 2^32, 2^32 + 1, 2^33 + 5", read(0, "1,2147483648,a;1,4294967296,a;1,4294967297,a;1,8589934597,a"), "0 4");
        Check.is("2^63, 2^64 and 2^64 + 1", read(0, "1,9223372036854775808,a;1,18446744073709551616,a;1,18446744073709551617,a"), "0 3");
        Check.is("a NAME that would wrap around", read(0, "4294967297,1,a;18446744073709551617,1,a"), "0 2");
        Check.is("a NUMBER of 100 digits", read(0, "1," + "9".repeat(100) + ",a"), "0 1");
    }

    private static void fiveFeeds() {
        of("FEEDS are numbered from 0, at most 5.");
        Newsfold x = new Newsfold();
        for (int i = 0; i < 5; i++) {
            Check.is("FEED " + i, x.feed(i % 2), i);
        }
        Check.is("five", x.house(0), 5);
        Edge.state("the sixth", TextEdges::fiveAreThere, y -> y.feed(0));
        Edge.leaves("the sixth, brought", () -> typed(fiveAreThere(), "0:60"), -4, Newsfold::bring);
        Check.is("one brought behind four", typed(four(), "1:15").bring(), 1);
    }

    static Newsfold fiveAreThere() {
        Newsfold x = four();
        x.feed(1);
        return x;
    }

    private static Newsfold four() {
        Newsfold x = new Newsfold();
        for (int i = 0; i < 4; i++) {
            x.feed(0);
        }
        return x;
    }

    private static void pageOf200() {
        of("a PAGE, a text of at most 200 SIGNS (empty at first)");
        Newsfold x = withFeed();
        Check.is("a PAGE at first", x.page(0), "");
        for (int i = 1; i <= 25; i++) {
            Check.is("eight SIGNS more", x.write(0, -1, 100, 1, -1, -1), 8 * i);
        }
        Check.is("200 SIGNS", x.page(0), ",100,ab;".repeat(25));
        Edge.leaves("a 201st", () -> page(0, 24), -4, y -> y.write(0, 1, 100, 1, -1, -1));
        Edge.leaves("behind 200", TextEdges::fullPage, -4, y -> y.write(0, -1, 0, 0, -1, -1));
    }

    static Newsfold fullPage() {
        return page(0, 25);
    }

    /** FEED 0 has a PAGE of so many ENTRIES, of 8 SIGNS each. */
    static Newsfold page(int form, int entries) {
        Newsfold x = new Newsfold();
        x.feed(form);
        for (int i = 0; i < entries; i++) {
            x.write(0, -1, 100, 1, -1, -1);
        }
        return x;
    }

    private static void pieces() {
        of("the PIECES of a PAGE are what lies between \";\" (also ahead of the first and behind the last one), but for empty ones.");
        Check.is("no SIGN at all", read(0, ""), "0 0");
        Check.is("no \";\" at all", read(0, "1,1,a"), "1 0");
        Check.is("ahead of the first, behind the last one", read(0, "1,1,a;2,1,a"), "2 0");
        Check.is("empty ones ahead, between, behind", read(0, ";;1,1,a;;;:;;"), "1 1");
        Check.is("empty ones alone", read(0, ";") + "|" + read(0, ";;;"), "0 0|0 0");
        Check.is("a blank is not empty", read(0, " ;; ;"), "0 2");
        Newsfold x = fullPage();
        for (int place = 0; place < 200; place += 2) {
            x.poke(0, place, 24);
            x.poke(0, place + 1, 19);
        }
        Check.is("a hundred PIECES", counts(x) + " " + x.fetch(0) + x.fetched(0), "0 100 00@0:0+0!100");
        Newsfold y = fullPage();
        y.poke(0, 199, 7);
        Check.is("the 200th SIGN ends a WORD", y.fetch(0) + " " + y.text(0) + " " + y.text(1), "2 ab abh");
    }

    private static void twoCommas() {
        of("A PIECE is an ENTRY, if it has just two \",\";");
        Check.is("none", read(0, "a") + "|" + read(0, "1"), "0 1|0 1");
        Check.is("one", read(0, "1,a") + "|" + read(0, ",1") + "|" + read(0, ","), "0 1|0 1|0 1");
        Check.is("two", read(0, "1,1,a"), "1 0");
        Check.is("two, and nothing else", read(0, ",,"), "0 1");
        Check.is("three", read(0, "1,1,a,") + "|" + read(0, ",1,1,a") + "|" + read(0, "1,1,,a") + "|" + read(0, "1,1,a,b"),
            "0 1|0 1|0 1|0 1");
        Check.is("four", read(0, "1,1,a,,"), "0 1");
    }

    private static void nameOfPiece() {
        of("ahead of the first one nothing, or a NUMBER of 0 to 99 (its NAME);");
        Check.is("nothing, 0, 99, 100", read(0, ",1,a;0,1,a;99,1,a") + "|" + read(0, "100,1,a"), "3 0|0 1");
        Check.is("their NAMES", names("0,1,a;99,1,a"), "0 99");
        Check.is("a NAME that a TEXT alone can give", read(0, "101,1,a"), "0 1");
        Check.is("a blank, and blanks round a NUMBER", read(0, " ,1,a; 1,1,a;1 ,1,a"), "0 3");
        Check.is("a letter", read(0, "a,1,a"), "0 1");
    }

    private static String names(String page) {
        Newsfold x = Edge.fetched(0, page);
        String all = "";
        for (int i = 0; i < x.house(2); i++) {
            all += (i > 0 ? " " : "") + x.ofItem(i, 1);
        }
        return all;
    }

    private static void timeOfPiece() {
        of("between them a NUMBER of 0 to 9999 (its TIME);");
        Check.is("0, 9999, 10000", read(0, "1,0,a;2,9999,a") + "|" + read(0, "1,10000,a"), "2 0|0 1");
        Newsfold x = Edge.fetched(0, "1,0,a;2,9999,a");
        Check.is("their TIMES", x.ofItem(0, 2) + " " + x.ofItem(1, 2), "0 9999");
        Check.is("nothing, a blank, a letter", read(0, "1,,a;1, ,a;1,a,a"), "0 3");
    }

    private static void wordsOfPiece() {
        of("behind them 1 to 5 WORDS, and else only blanks (between two WORDS, and ahead and behind).");
        Check.is("no WORD", read(0, "1,1,") + "|" + read(0, "1,1, ") + "|" + read(0, "1,1,     "), "0 1|0 1|0 1");
        Check.is("one", read(0, "1,1,a"), "1 0");
        Check.is("five", read(0, "1,1,a b c d e") + "|" + read(0, "1,1,a a a a a"), "1 0|1 0");
        Check.is("six", read(0, "1,1,a b c d e f") + "|" + read(0, "1,1,a a a a a a"), "0 1|0 1");
        Check.is("many", read(0, "1,1," + "a ".repeat(50)), "0 1");
        Check.is("blanks between, ahead, behind", read(0, "1,1,   a  b   c    d e     "), "1 0");
        Check.is("its five WORDS", Edge.fetched(0, "1,1,  a  b c d   ef ").text(0), "a b c d ef");
        Check.is("else not only blanks", read(0, "1,1,a 1;1,1,a b c d e 1;1,1,:a"), "0 3");
    }

    private static void otherPieces() {
        of("Otherwise it is a FAULT.");
        Check.is("each PIECE alone", read(0, "1,1,a;:;2,2,b;1,1;3,3,c;,,;100,1,a;1,10000,a"), "3 5");
        Check.is("in the PAGE it changes no other one", names("1,1,a;:;2,2,b;<;3,3,c"), "1 2 3");
    }

    private static void overWithoutOpening() {
        of("the next \"<\" is looked for (without one reading is over)");
        Check.is("no SIGN", read(1, ""), "0 0");
        Check.is("no \"<\"", read(1, "a/1>") + "|" + read(1, ">") + "|" + read(1, "1,1,a;"), "0 0|0 0|0 0");
        Check.is("none behind the last one", read(1, "<a/1>b/1>"), "1 0");
    }

    private static void openedWithoutEnd() {
        of("(without either that is a FAULT, and reading is over)");
        Check.is("\"<\" alone", read(1, "<"), "0 1");
        Check.is("an ENTRY without its end", read(1, "<a/1/1"), "0 1");
        Check.is("behind an ENTRY", read(1, "<a/1><") + "|" + read(1, "<a/1>><b/1"), "1 1|1 1");
        Newsfold x = page(1, 20);
        x.poke(0, x.page(0).length() - 1, 0);
        Check.is("at the end of a long PAGE", counts(x), "19 1");
    }

    private static void openedAgain() {
        of("If that is \"<\", there is a FAULT, and reading goes on with it as the one that was looked for.");
        Check.is("two of them", read(1, "<<"), "0 2");
        Check.is("an ENTRY from the second one on", read(1, "<<a/1>") + "|" + read(1, "<a/1<b/2>"), "1 1|1 1");
        Check.is("three of them", read(1, "<a<b<c/1>"), "1 2");
        Check.is("the one that was looked for is not left out", read(1, "<<a/1><<b/1>"), "2 2");
        Newsfold x = page(1, 25);
        int signs = x.page(0).length();
        for (int place = 0; place < signs; place++) {
            x.poke(0, place, 21);
        }
        Check.is("nothing but them", counts(x) + " " + x.fetch(0) + x.fetched(0), "0 " + signs + " 00@0:0+0!" + signs);
        Check.is("as many as a PAGE has", signs, 200);
    }

    private static void parts() {
        of("If it is \">\", what lies between both is parted at each \"/\":");
        of("it is an ENTRY, if that makes two or three parts");
        Check.is("one", read(1, "<a>") + "|" + read(1, "<1>") + "|" + read(1, "<>"), "0 1|0 1|0 1");
        Check.is("two", read(1, "<a/1>"), "1 0");
        Check.is("three", read(1, "<a/1/1>"), "1 0");
        Check.is("four", read(1, "<a/1/1/1>") + "|" + read(1, "<a/1/1/>") + "|" + read(1, "</a/1/1>"), "0 1|0 1|0 1");
        Check.is("five", read(1, "<a/1/1//>"), "0 1");
    }

    private static void emptyParts() {
        of("(an empty one is no NUMBER, and no WORDS)");
        Check.is("the first", read(1, "</1>") + "|" + read(1, "</1/1>"), "0 1|0 1");
        Check.is("the second", read(1, "<a/>") + "|" + read(1, "<a//1>"), "0 1|0 1");
        Check.is("the third", read(1, "<a/1/>"), "0 1");
        Check.is("all", read(1, "</>") + "|" + read(1, "<//>"), "0 1|0 1");
        Check.is("a third one without NUMBER is not none", Edge.fetched(1, "<a/1/><b/1>").text(0), "b");
    }

    private static void numbersOfTags() {
        of("WORDS as above, a NUMBER of 0 to 9999 (TIME), and, if there is a third one, a NUMBER of 0 to 99 (NAME);");
        Check.is("TIME 0, 9999, 10000", read(1, "<a/0><b/9999>") + "|" + read(1, "<a/10000>"), "2 0|0 1");
        Check.is("NAME 0, 99, 100", read(1, "<a/1/0><a/1/99>") + "|" + read(1, "<a/1/100>"), "2 0|0 1");
        Newsfold x = Edge.fetched(1, "<a/0/99><b/0009999/000>");
        Check.is("their TIMES and NAMES", x.ofItem(0, 2) + " " + x.ofItem(0, 1) + " " + x.ofItem(1, 2) + " " + x.ofItem(1, 1),
            "0 99 9999 0");
        Check.is("a blank", read(1, "<a/ 1><a/1 ><a/1/ 1><a/1/1 >"), "0 4");
        Check.is("no WORD, one, five, six", read(1, "< /1>") + "|" + read(1, "< a /1>< a  b c d e/1>") + "|"
            + read(1, "<a b c d e f/1>"), "0 1|2 0|0 1");
        Check.is("NUMBERS that would wrap around", read(1, "<a/4294967297><a/1/4294967297><a/1/18446744073709551617>"), "0 3");
    }

    private static void otherTags() {
        of("otherwise a FAULT;");
        Check.is("each alone", read(1, "<a/1><a><b/2><1/a><c/3><a;/1><a,/1><a:/1>"), "3 5");
    }

    private static void goesOnBehind() {
        of("reading goes on behind it.");
        Check.is("behind an ENTRY", read(1, "<a/1><b/1>"), "2 0");
        Check.is("behind a FAULT", read(1, "<a><b/1>"), "1 1");
        Check.is("what was read is not read again", read(1, "<a/1>>b/1>"), "1 0");
    }

    private static void outside() {
        of("What lies outside does not matter.");
        Check.is("ahead, between, behind", read(1, "a1;,>/: <a/1>a1;,>/: <b/1>a1;,>/: "), "2 0");
        Check.is("only that", read(1, ";1,1,a;/>>"), "0 0");
    }

    private static void textOfEntry() {
        of("its WORDS with one blank between two");
        Check.is("one WORD", Edge.fetched(0, "1,1,   abc   ").text(0), "abc");
        Check.is("five", Edge.fetched(1, "<  a  b   c    d     e      /1>").text(0), "a b c d e");
    }

    private static void wholeWords() {
        of("(a WORD is in a TEXT, if it is one of these as a whole:");
        of("\"a\" is not in \"ab\").");
        Newsfold x = Edge.fetched(0, "0,0,aab;1,0,baa;2,0,a a;3,0,aa;4,0,b aa;5,0,aa b;6,0,aaa;7,0,c aa c");
        x.rule(0, 0, 1);
        Check.is("as a whole", x.search(0, -1) + "|" + x.list(0, 0), "3 4 5 7|3 4 5 7 0 1 2 6");
        Newsfold y = Edge.fetched(0, "0,0,a b;1,0,ab bc;2,0,aa bb;3,0,a b");
        Check.is("\"a\" and \"b\" are in two of them alone", y.story(0) + "|" + y.common(0, 1) + y.common(0, 2), "0 3|00");
    }

    private static void nameByText() {
        of("s is 0 at first;");
        of("SIGN by SIGN s becomes (7 * s + v) MOD 97, v being 1 to 8 for \"a\" to \"h\" and 0 for a blank;");
        of("its NAME is 100 + s.");
        Check.is("v is 1 to 8", names(",1,a;,1,h"), "101 108");
        Check.is("7 * s", names(",1,ha"), 157);
        Check.is("96, 97, and 98 before MOD", names(",1,afe;,1,aff;,1,afg"), "196 100 101");
        Check.is("a blank is 0", names(",1,a b"), 100 + (49 + 2) % 97);
        Check.is("the smallest and the greatest one", smallestAndGreatest(), "100 196");
        Newsfold x = Edge.fetched(0, ",1,afa;,1,aeh;,2,aeh");
        Check.is("two TEXTS with the same NAME are one ITEM", x.fetched(0) + " " + x.ofItem(0, 1) + x.text(0), "0@0:1+1!0 192aeh");
        Check.is("a long TEXT wraps around at each SIGN", names(",1," + "h".repeat(90)), 100 + remainder("h".repeat(90)));
    }

    private static int remainder(String text) {
        int s = 0;
        for (char c : text.toCharArray()) {
            s = (7 * s + (c == ' ' ? 0 : c - 'a' + 1)) % 97;
        }
        return s;
    }

    /** The NAMES of a TEXT with the remainder 0, and of one with 96. */
    private static String smallestAndGreatest() {
        String zero = "";
        String most = "";
        for (int i = 0; i < 512; i++) {
            String text = "" + (char) ('a' + i / 64) + (char) ('a' + i / 8 % 8) + (char) ('a' + i % 8);
            zero = remainder(text) == 0 ? text : zero;
            most = remainder(text) == 96 ? text : most;
        }
        Newsfold x = Edge.fetched(0, ",1," + zero + ";,1," + most);
        Check.is("one asks for them", x.find(0, 100) + " " + x.find(0, 196), "0 1");
        return x.ofItem(0, 1) + " " + x.ofItem(1, 1);
    }

    private static void comparedTexts() {
        of("TEXTS are compared SIGN by SIGN, a blank is less than each letter, and a text with which another one begins is less than this.");
        String[] rising = {"a", "a a", "a b", "a b c", "a c", "aa", "aa a", "ab", "b", "b a", "h", "hh"};
        for (int i = 0; i < rising.length; i++) {
            for (int k = 0; k < rising.length; k++) {
                Newsfold x = Edge.fetched(0, "1,1," + rising[i]);
                int changed = Edge.refetched(x, "1,1," + rising[k]);
                Check.is(rising[k] + " behind " + rising[i], changed + x.text(0), k > i ? 1 + rising[k] : 0 + rising[i]);
            }
        }
    }

    /** ENTRIES and FAULTS that a PAGE has. */
    static String counts(Newsfold x) {
        return x.ofFeed(0, 7) + " " + x.ofFeed(0, 8);
    }

    /** ENTRIES and FAULTS of a PAGE as one asks for them; the FETCH has to find as many. */
    static String read(int form, String page) {
        Newsfold x = new Newsfold();
        x.feed(form);
        Check.put(x, 0, page);
        String now = counts(x);
        x.fetch(0);
        Check.is(page + ": FAULTS of the FETCH", x.fetched(0).replaceAll(".*!", ""), x.ofFeed(0, 8));
        return now;
    }
}
