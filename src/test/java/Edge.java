import java.util.function.Supplier;

/**
 * Checks at edges. A state is made anew for each check, so that an object gets far less than 512 calls, and so
 * that one which was refused a call can be compared with one that was not asked at all.
 */
final class Edge {
    interface Call {
        Object on(Newsfold x);
    }

    interface CallWith {
        Object on(Newsfold x, int n);
    }

    private Edge() { }

    /** The answer, or "throws." and the name of the exception. */
    static String answer(Newsfold x, Call call) {
        try {
            return String.valueOf(call.on(x));
        } catch (RuntimeException e) {
            return "throws." + e.getClass().getSimpleName();
        }
    }

    /** The call answers that, and changes nothing. */
    static void leaves(String what, Supplier<Newsfold> state, Object due, Call call) {
        Newsfold x = state.get();
        Check.is(what, answer(x, call), due);
        same(what + " changes nothing", x, state.get());
    }

    /** Both are spent behind that. */
    static void same(String what, Newsfold x, Newsfold due) {
        Check.is(what, firstUnlike(whole(x), whole(due)), "");
    }

    private static String firstUnlike(String got, String due) {
        String[] some = got.split("\n", -1);
        String[] other = due.split("\n", -1);
        for (int i = 0; i < Math.min(some.length, other.length); i++) {
            if (!some[i].equals(other[i])) {
                return "line " + i + ": " + some[i] + ", and without the call: " + other[i];
            }
        }
        return some.length == other.length ? "" : some.length + " lines, and without the call: " + other.length;
    }

    static void index(String what, Supplier<Newsfold> state, Call call) {
        leaves(what, state, "throws.IndexOutOfBoundsException", call);
    }

    static void argument(String what, Supplier<Newsfold> state, Call call) {
        leaves(what, state, "throws.IllegalArgumentException", call);
    }

    static void state(String what, Supplier<Newsfold> state, Call call) {
        leaves(what, state, "throws.IllegalStateException", call);
    }

    /** From least to most an argument is taken; just outside and far outside it is refused. */
    static void arguments(String what, Supplier<Newsfold> state, int least, int most, CallWith call) {
        range("throws.IllegalArgumentException", what, state, least, most, call);
    }

    static void indexes(String what, Supplier<Newsfold> state, int least, int most, CallWith call) {
        range("throws.IndexOutOfBoundsException", what, state, least, most, call);
    }

    private static void range(String exception, String what, Supplier<Newsfold> state, int least, int most, CallWith call) {
        for (int n : new int[] {least, most}) {
            String got = answer(state.get(), x -> call.on(x, n));
            Check.is(what + " " + n + " is taken (" + got + ")", got.startsWith("throws."), false);
        }
        for (int n : new int[] {least - 1, most + 1, Integer.MIN_VALUE, Integer.MAX_VALUE}) {
            leaves(what + " " + n, state, exception, x -> call.on(x, n));
        }
    }

    /** What one asks for: it answers without an exception, and changes nothing. */
    static void asks(String what, Supplier<Newsfold> state, Call call) {
        String got = answer(state.get(), call);
        Check.is(what + " answers (" + got + ")", got.startsWith("throws."), false);
        leaves(what, state, got, call);
    }

    /** All that one can ask for, and then what comes of STEPS, pairs and LETTERS: x is spent behind that. */
    static String whole(Newsfold x) {
        StringBuilder all = new StringBuilder();
        tell(all, x);
        for (int i = 0; i < 8; i++) {
            for (int k = i + 1; k < 8; k++) {
                int one = i;
                int other = k;
                all.append(answer(x, o -> o.apart(one, other, false)).replace("throws.IndexOutOfBoundsException", "-"));
            }
        }
        for (int i = 0; i < 18; i++) {
            int desk = i % 3;
            all.append('\n').append(answer(x, o -> o.undo(desk)));
        }
        all.append('\n').append(x.digest());
        for (int i = 0; i < 8; i++) {
            all.append('\n').append(answer(x, o -> o.arrive(0, false)));
        }
        return all.append('\n').append(x.digest()).append('\n').append(x.list(0, 0)).toString();
    }

    private static void tell(StringBuilder all, Newsfold x) {
        all.append(x.digest()).append('\n').append(x.typed()).append('\n').append(x.out()).append('\n').append(x.shown());
        int feeds = x.house(0);
        for (int f = 0; f < feeds; f++) {
            all.append('\n').append(x.page(f));
            for (int name = 0; name < 9; name++) {
                all.append(' ').append(x.find(f, name));
            }
        }
        for (int nth = 0; nth < 7; nth++) {
            all.append('\n').append(x.fetched(nth));
        }
        for (int i = 0; i < 40; i++) {
            int item = i;
            all.append('\n').append(answer(x, o -> o.text(item)));
        }
        for (int i = 0; i < 10; i++) {
            int item = i;
            all.append('\n').append(answer(x, o -> o.reasons(item) + "|" + o.story(item)));
        }
        for (int desk = 0; desk < 3; desk++) {
            for (int view = 0; view < 10; view++) {
                all.append('\n').append(x.list(desk, view));
            }
            for (int nth = 0; nth < 4; nth++) {
                all.append('\n').append(x.morning(desk, nth));
            }
        }
        all.append('\n').append(x.would(0)).append('|').append(x.would(600));
    }

    /** A FEED of that FORM with that PAGE (of at most 120 SIGNS), FETCHED. */
    static Newsfold fetched(int form, String page) {
        Newsfold x = new Newsfold();
        x.feed(form);
        Check.put(x, 0, page);
        x.fetch(0);
        return x;
    }

    /** Another PAGE for FEED 0, FETCHED: NEW and CHANGED together. */
    static int refetched(Newsfold x, String page) {
        Check.put(x, 0, page);
        return x.fetch(0);
    }

    /** READ on each DESK. */
    static void readOnAll(Newsfold x, int... items) {
        for (int item : items) {
            for (int desk = 0; desk < 3; desk++) {
                x.mark(desk, item, 0, 1);
            }
        }
    }

    /** 40 ITEMS with the NAMES 0 to 39, and one WORD in each, no more than three times the same. */
    static Newsfold forty() {
        Newsfold x = new Newsfold();
        x.feed(0);
        for (int k = 0; k < 2; k++) {
            Check.put(x, 0, "");
            for (int i = 0; i < 20; i++) {
                x.write(0, k * 20 + i, 100 + i, k * 20 + i, -1, -1);
            }
            x.fetch(0);
        }
        return x;
    }

    /** Something of everything: FEEDS, ITEMS (6 is GONE), RULES, QUESTIONS, MARKS, STEPS, LETTERS, DIGESTS. */
    static Newsfold rich() {
        Newsfold x = new Newsfold();
        x.feed(0);
        x.feed(1);
        x.feed(0);
        Check.put(x, 0, "1,10,aa bb;2,20,bb aa;3,30,cc dd;4,2000,dd ee;:;5,5,ff");
        Check.put(x, 1, "<aa bb/700/6><hh/1/7><a");
        x.tick(5);
        x.rule(0, 0, 3);
        x.rule(4, 2, -2);
        x.ask(0, 2, 1, true);
        x.ask(1, 4, 1, false);
        x.apart(0, 5, true);
        readOnAll(x, 6);
        x.forget(0);
        x.open(0, 1);
        x.open(2, 3);
        x.upTo(1, 2);
        x.mark(1, 0, 2, 3);
        x.mark(2, 0, 3, 8);
        x.mark(2, 0, 1, 1);
        x.send(0, 1);
        x.send(2, 0);
        x.arrive(1, true);
        x.send(1, 2);
        x.zone(0, 0, 6);
        x.zone(1, 60, 66);
        x.bar(-3);
        x.tick(1);
        x.bar(2);
        x.knock();
        Check.type(x, "ab;1:70;0:15");
        return x;
    }
}
