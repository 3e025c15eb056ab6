/** Counts what is as it has to be, and prints what is not. */
final class Check {
    static int passed = 0;
    static int failed = 0;

    interface Call {
        Object run();
    }

    private Check() { }

    static void is(String what, Object got, Object due) {
        if (String.valueOf(got).equals(String.valueOf(due))) {
            passed++;
        } else {
            failed++;
            System.out.println(what + " answered " + got + ", due is " + due);
        }
    }

    static void index(String what, Newsfold x, Call call) {
        refused(what, x, "IndexOutOfBoundsException", call);
    }

    static void argument(String what, Newsfold x, Call call) {
        refused(what, x, "IllegalArgumentException", call);
    }

    static void state(String what, Newsfold x, Call call) {
        refused(what, x, "IllegalStateException", call);
    }

    /** The call throws just that, and the checksum is as before (Edge compares all that one can ask for). */
    private static void refused(String what, Newsfold x, String exception, Call call) {
        long before = x.digest();
        String got;
        try {
            got = String.valueOf(call.run());
        } catch (RuntimeException e) {
            got = e.getClass().getSimpleName();
        }
        is(what, got, exception);
        is(what + " changes nothing", x.digest(), before);
    }

    static boolean isKept(Newsfold x, int item) {
        try {
            x.text(item);
            return true;
        } catch (IndexOutOfBoundsException e) {
            return false;
        }
    }

    /** TYPED becomes that text. */
    static void type(Newsfold x, String text) {
        x.say(26, -1, -1, -1, -1, -1);
        for (int i = 0; i < text.length(); i += 6) {
            x.say(codeAt(text, i), codeAt(text, i + 1), codeAt(text, i + 2), codeAt(text, i + 3), codeAt(text, i + 4),
                codeAt(text, i + 5));
        }
    }

    private static int codeAt(String text, int place) {
        return place < text.length() ? "abcdefgh 0123456789;,<>/:".indexOf(text.charAt(place)) : -1;
    }

    /** A text becomes the PAGE of a FEED. */
    static void put(Newsfold x, int feed, String text) {
        type(x, text);
        x.put(feed);
    }

    /** A FEED of FORM 0 with that PAGE, FETCHED. */
    static Newsfold fetched(String page) {
        Newsfold x = new Newsfold();
        x.feed(0);
        put(x, 0, page);
        x.fetch(0);
        return x;
    }
}
