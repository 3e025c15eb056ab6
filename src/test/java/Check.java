/** Counts what is as it has to be, and prints what is not. */
final class Check {
    static int passed = 0;
    static int failed = 0;

    interface Call {
        Object run();
    }

    private Check() { }

    static void is(String what, Object got, Object due) {
        if (String.valueOf(got).equals(String.valueOf(due))) {
            passed++;
        } else {
            failed++;
            System.out.println(what + " answered " + got + ", due is " + due);
        }
    }

    static void index(String what, Newsfold x, Call call) {
        refused(what, x, "IndexOutOfBoundsException", call);
    }

    static void argument(String what, Newsfold x, Call call) {
        refused(what, x, "IllegalArgumentException", call);
    }

    static void state(String what, Newsfold x, Call call) {
        refused(what, x, "IllegalStateException", call);
    }

    /** The call throws just that, and nothing that one can ask for is another one behind it. */
    private static void refused(String what, Newsfold x, String exception, Call call) {
        String before = whole(x);
        String got;
        try {
            got = String.valueOf(call.run());
        } catch (RuntimeException e) {
            got = e.getClass().getSimpleName();
        }
        is(what, got, exception);
        is(what + " changes nothing", whole(x), before);
    }

    /** All that one can ask for. */
    static String whole(Newsfold x) {
        StringBuilder all = new StringBuilder();
        all.append(x.digest()).append('\n').append(x.typed()).append('\n').append(x.out()).append('\n').append(x.shown());
        for (int f = 0; f < x.house(0); f++) {
            all.append('\n').append(x.page(f));
        }
        for (int n = 0; n < 7; n++) {
            all.append('\n').append(x.fetched(n));
        }
        for (int i = 0; i < x.house(2); i++) {
            if (isKept(x, i)) {
                all.append('\n').append(x.text(i)).append('|').append(x.reasons(i)).append('|').append(x.story(i));
            }
        }
        for (int desk = 0; desk < 3; desk++) {
            for (int view = 0; view < 10; view++) {
                all.append('\n').append(x.list(desk, view));
            }
            for (int nth = 0; nth < 4; nth++) {
                all.append('\n').append(x.morning(desk, nth));
            }
        }
        return all.append('\n').append(x.would(0)).append('|').append(x.would(600)).toString();
    }

    static boolean isKept(Newsfold x, int item) {
        try {
            x.text(item);
            return true;
        } catch (IndexOutOfBoundsException e) {
            return false;
        }
    }

    /** TYPED becomes that text. */
    static void type(Newsfold x, String text) {
        x.say(26, -1, -1, -1, -1, -1);
        for (int i = 0; i < text.length(); i += 6) {
            x.say(codeAt(text, i), codeAt(text, i + 1), codeAt(text, i + 2), codeAt(text, i + 3), codeAt(text, i + 4),
                codeAt(text, i + 5));
        }
    }

    private static int codeAt(String text, int place) {
        return place < text.length() ? "abcdefgh 0123456789;,<>/:".indexOf(text.charAt(place)) : -1;
    }

    /** A text becomes the PAGE of a FEED. */
    static void put(Newsfold x, int feed, String text) {
        type(x, text);
        x.put(feed);
    }

    /** A FEED of FORM 0 with that PAGE, FETCHED. */
    static Newsfold fetched(String page) {
        Newsfold x = new Newsfold();
        x.feed(0);
        put(x, 0, page);
        x.fetch(0);
        return x;
    }
}
