import java.math.BigInteger;
import java.util.function.Supplier;

/** What the document says of all calls, and each sentence of promises 47, 48 and 50 that names an edge. */
final class HouseEdges {
    private static final String INDEX = "throws.IndexOutOfBoundsException";
    private static final String ARGUMENT = "throws.IllegalArgumentException";
    private static final String STATE = "throws.IllegalStateException";

    private HouseEdges() { }

    static void run() {
        refusedChangesNothing();
        firstNamed();
        askingChangesNothing();
        knock();
        house();
        houseWhat();
        sound();
        scoresAndReasons();
        listsAndOrder();
        wrapsAround();
        eachValue();
    }

    private static void of(String words) {
        Sentence.of(Sentence.DESCRIPTION, words);
    }

    /** Calls of each method, all of them refused of a state as of Edge.rich() with all that can be full full. */
    private static final Edge.Call[] REFUSED = {
        x -> x.say(0, -1, -1, -1, -1, -1), x -> x.say(27, 0, 0, 0, 0, 0), x -> x.feed(0), x -> x.feed(2), x -> x.put(5),
        x -> x.write(5, 0, 0, 0, 0, 0), x -> x.write(0, 100, 0, 0, 0, 0), x -> x.poke(0, 200, 0), x -> x.poke(0, 0, 25),
        x -> x.page(-1), x -> x.fetch(5), x -> x.tick(0), x -> x.ofFeed(0, 9), x -> x.ofFeed(5, 0), x -> x.fetched(-1),
        x -> x.ofItem(6, 0), x -> x.ofItem(0, 11), x -> x.text(6), x -> x.find(5, 0), x -> x.find(0, 197), x -> x.story(6),
        x -> x.apart(0, 6, false), x -> x.apart(0, 0, false), x -> x.common(6, 0), x -> x.rule(0, 0, 0), x -> x.rule(5, 0, 0),
        x -> x.unrule(6), x -> x.reasons(6), x -> x.list(3, 0), x -> x.list(0, 10), x -> x.ask(0, 0, 0, false),
        x -> x.ask(3, 0, 0, false), x -> x.ask(0, 8, 0, false), x -> x.unask(3), x -> x.search(64, 0), x -> x.hours(5, 0),
        x -> x.hours(0, 24), x -> x.mark(0, 6, 0, 1), x -> x.mark(0, 0, 0, 2), x -> x.open(0, 6), x -> x.upTo(0, 6), x -> x.undo(3),
        x -> x.undo(0), x -> x.marked(0, 6, 0, true), x -> x.marked(0, 0, 4, true), x -> x.send(0, 3), x -> x.send(0, 0),
        x -> x.send(0, 1), x -> x.arrive(8, false), x -> x.lose(8), x -> x.ofLetter(8, 0), x -> x.ofLetter(0, 6), x -> x.known(0, 0, 3),
        x -> x.ofDesk(3, 0), x -> x.ofDesk(0, 10), x -> x.zone(3, 0, 0), x -> x.zone(0, 841, 0), x -> x.bar(55), x -> x.morning(3, 0),
        x -> x.morning(0, -1), x -> x.forget(10000), x -> x.would(-1), x -> x.house(12)};

    /** TYPED, FEEDS, RULES, a QUESTION and the WAY are full, and DESK 0 has no STEP. */
    private static Newsfold full() {
        Newsfold x = Edge.rich();
        x.undo(0);
        x.undo(0);
        x.feed(1);
        x.feed(1);
        for (int i = 0; i < 4; i++) {
            x.rule(3, i, i);
        }
        x.ask(0, 0, 0, false);
        x.ask(0, 0, 1, true);
        for (int i = 0; i < 5; i++) {
            x.send(1, 0);
        }
        Check.type(x, "a".repeat(120));
        return x;
    }

    private static void refusedChangesNothing() {
        of("A method that throws an exception changes nothing.");
        Newsfold x = full();
        for (int i = 0; i < REFUSED.length; i++) {
            Check.is("call " + i + " is refused", Edge.answer(x, REFUSED[i]).startsWith("throws."), true);
        }
        Edge.same("all of them changed nothing", x, full());
        for (int i = 0; i < REFUSED.length; i++) {
            String got = Edge.answer(full(), REFUSED[i]);
            Edge.leaves("call " + i, HouseEdges::full, got, REFUSED[i]);
        }
    }

    private static void both(String what, Supplier<Newsfold> state, String due, Edge.Call call) {
        Edge.leaves("first named: " + what, state, due, call);
    }

    private static void firstNamed() {
        of("If several exceptions apply, the one that is named first is thrown.");
        Supplier<Newsfold> full = HouseEdges::full;
        both("say", full, ARGUMENT, x -> x.say(0, 0, 0, 0, 0, 27));
        both("feed", full, ARGUMENT, x -> x.feed(-1));
        both("write", full, INDEX, x -> x.write(-1, 100, 10000, 64, 64, 64));
        both("poke FEED", full, INDEX, x -> x.poke(5, 0, 25));
        both("poke place", full, INDEX, x -> x.poke(0, -1, -1));
        both("tick", HouseEdges::late, ARGUMENT, x -> x.tick(601));
        both("tick of 0", HouseEdges::late, ARGUMENT, x -> x.tick(0));
        both("ofFeed", full, INDEX, x -> x.ofFeed(5, -1));
        both("ofItem", full, INDEX, x -> x.ofItem(6, -1));
        both("find", full, INDEX, x -> x.find(-1, -1));
        both("apart", full, INDEX, x -> x.apart(6, 6, true));
        both("apart -1", full, INDEX, x -> x.apart(-1, -1, true));
        both("rule", full, ARGUMENT, x -> x.rule(0, 0, 10));
        both("list", full, INDEX, x -> x.list(-1, -1));
        both("ask QUESTION and kind", full, INDEX, x -> x.ask(-1, 8, -1, false));
        both("ask kind in a full one", full, ARGUMENT, x -> x.ask(0, -1, 0, false));
        both("ask value in a full one", full, ARGUMENT, x -> x.ask(0, 0, -1, true));
        both("hours", full, INDEX, x -> x.hours(-2, -1));
        both("mark DESK", full, INDEX, x -> x.mark(-1, 0, -1, -1));
        both("mark ITEM", full, INDEX, x -> x.mark(0, 6, 4, 10));
        both("undo", full, INDEX, x -> x.undo(-1));
        both("marked", full, INDEX, x -> x.marked(0, 6, -1, false));
        both("send to none", full, INDEX, x -> x.send(-1, -1));
        both("send from one to none", full, INDEX, x -> x.send(0, 3));
        both("send to itself by a full WAY", full, ARGUMENT, x -> x.send(2, 2));
        both("ofLetter", full, INDEX, x -> x.ofLetter(-1, -1));
        both("ofDesk", full, INDEX, x -> x.ofDesk(-1, -1));
        both("zone", full, INDEX, x -> x.zone(-1, -721, -1));
        both("morning", full, INDEX, x -> x.morning(3, -1));
        both("one alone is thrown as it is", full, STATE, x -> x.send(2, 0));
    }

    /** CLOCK is 20000. */
    private static Newsfold late() {
        Newsfold x = new Newsfold();
        for (int i = 0; i < 33; i++) {
            x.tick(600);
        }
        x.tick(200);
        return x;
    }

    private static final Edge.Call[] ASKED = {Newsfold::typed, Newsfold::out, x -> x.page(0), x -> x.ofFeed(0, 8), x -> x.fetched(0),
        x -> x.ofItem(0, 9), x -> x.text(0), x -> x.find(1, 7), x -> x.story(0), x -> x.common(0, 1), x -> x.reasons(0),
        x -> x.list(0, 8), x -> x.search(0, 9), x -> x.hours(-1, 0), x -> x.marked(0, 0, 0, true), x -> x.ofLetter(0, 2),
        x -> x.known(0, 1, 2), Newsfold::unlike, x -> x.ofDesk(0, 9), x -> x.morning(0, 0), x -> x.would(0), Newsfold::shown,
        x -> x.house(7), Newsfold::isSound, Newsfold::digest};

    private static void askingChangesNothing() {
        of("What one asks for changes nothing.");
        Newsfold x = full();
        String first = "";
        String second = "";
        for (Edge.Call call : ASKED) {
            first += Edge.answer(x, call) + "\n";
        }
        for (Edge.Call call : ASKED) {
            second += Edge.answer(x, call) + "\n";
        }
        Check.is("the same again", second, first);
        Edge.same("all of it changed nothing", x, full());
        for (int i = 0; i < ASKED.length; i++) {
            Edge.asks("asked " + i, HouseEdges::full, ASKED[i]);
            Edge.asks("asked " + i + " of 40", Edge::forty, i == 15 || i == 7 ? Newsfold::digest : ASKED[i]);
        }
    }

    private static void knock() {
        Sentence.of(47, "Knocks.");
        Sentence.of(47, "Returns how often one knocked, with this.");
        Newsfold x = new Newsfold();
        for (int i = 1; i < 500; i++) {
            Check.is("with this", x.knock(), i);
        }
        Check.is("as house() of 11", x.house(11), 499);
    }

    private static void house() {
        Sentence.of(48, "0 FEEDS, 1 KEPT ITEMS, 2 ITEMS that came ever, 3 CLOCK, 4 RULES, 5 LETTERS in the WAY, 6 SIGNS of TYPED, 7 STORIES,"
            + " 8 pairs held APART, 9 BAR, 10 CONDITIONS of all QUESTIONS, 11 how often one knocked");
        Newsfold x = full();
        String got = "";
        for (int what = 0; what < 12; what++) {
            got += x.house(what) + " ";
        }
        Check.is("a full one", got, "5 6 7 6 6 8 120 4 1 2 4 1 ");
        Check.is("CLOCK 20000", late().house(3), 20000);
        Check.is("nine CONDITIONS", StoryEdges.fullQuestions().house(10), 9);
        Newsfold y = Edge.forty();
        for (int i = 1; i < 40; i++) {
            y.apart(0, i, true);
            y.apart(39, 40 - i - 1, true);
        }
        Check.is("pairs of 40", y.house(8) + " " + y.house(7), "77 40");
        Sentence.of(48, "Returns that.");
        for (int what = 0; what < 12; what++) {
            int of = what;
            Edge.asks("house " + what, Edge::rich, z -> z.house(of));
        }
    }

    private static void houseWhat() {
        Sentence.of(48, "Throws `IllegalArgumentException` if what is not 0 to 11");
        Edge.arguments("house", Edge::rich, 0, 11, Newsfold::house);
        Edge.arguments("house of a new one", Newsfold::new, 0, 11, Newsfold::house);
    }

    private static void sound() {
        Sentence.of(49, "Returns whether all of this is so:");
        Check.is("a new one", new Newsfold().isSound(), true);
        Check.is("a rich one, a full one", Edge.rich().isSound() + " " + full().isSound(), "true true");
        Check.is("40 alone, 40 in one STORY", Edge.forty().isSound() + " " + StoryEdges.chain().isSound(), "true true");
        Check.is("at the end of CLOCK", late().isSound(), true);
        Edge.asks("isSound", Edge::rich, Newsfold::isSound);
    }

    private static void scoresAndReasons() {
        Sentence.of(49, "each SCORE is the sum of the POINTS of its REASONS;");
        for (Newsfold x : new Newsfold[] {full(), Edge.rich(), ruled(Edge.forty()), ruled(StoryEdges.chain())}) {
            for (int i = 0; i < x.house(1); i++) {
                int sum = 0;
                for (String reason : x.reasons(i).split(" ")) {
                    sum += reason.isEmpty() ? 0 : Integer.parseInt(reason.substring(1));
                }
                Check.is("SCORE of ITEM " + i, x.ofItem(i, 9), sum);
            }
        }
    }

    /** RULES of all kinds, and MARKS. */
    private static Newsfold ruled(Newsfold x) {
        x.tick(110);
        x.rule(0, 7, 3);
        x.rule(1, 0, -4);
        x.rule(2, 0, 5);
        x.rule(3, 2, 7);
        x.rule(4, 2, -9);
        x.upTo(0, 21);
        x.upTo(1, 5);
        x.upTo(2, 38);
        for (int i = 0; i < 9; i++) {
            x.mark(i % 3, 4 * i, 1, 1);
            x.mark(i % 3, 39 - 2 * i, 2, 1 + i % 4);
        }
        return x;
    }

    private static void listsAndOrder() {
        Sentence.of(49, "each LIST of a VIEW is what is found by looking at all ITEMS, each behind one that is ahead of it by ORDER;");
        for (int desk = 0; desk < 3; desk++) {
            for (Newsfold x : new Newsfold[] {full(), Edge.rich(), ruled(Edge.forty()), ruled(StoryEdges.chain())}) {
                int[][] facts = facts(x, desk);
                for (int view = 0; view < 7; view++) {
                    Check.is("LIST of VIEW " + view + " on DESK " + desk, x.list(desk, view), found(facts, view));
                }
            }
        }
    }

    /** SCORE, TIME, READ, STAR and FOLDER of all ITEMS, which have to be KEPT from 0 on. */
    private static int[][] facts(Newsfold x, int desk) {
        int[][] facts = new int[x.house(1)][];
        for (int i = 0; i < facts.length; i++) {
            facts[i] = new int[] {x.ofItem(i, 9), x.ofItem(i, 2), x.marked(desk, i, 0, false), x.marked(desk, i, 1, false),
                x.marked(desk, i, 2, false)};
        }
        return facts;
    }

    /** By looking at all ITEMS, again and again for the next one. */
    private static String found(int[][] facts, int view) {
        StringBuilder list = new StringBuilder();
        boolean[] isListed = new boolean[facts.length];
        for (int round = 0; round < facts.length; round++) {
            int next = -1;
            for (int i = 0; i < facts.length; i++) {
                int[] of = facts[i];
                boolean isIn = view == 0 || view == 1 && of[2] == 0 || view == 2 && of[3] == 1 || view > 2 && of[4] == view - 2;
                if (isIn && !isListed[i] && (next < 0 || of[0] > facts[next][0] || of[0] == facts[next][0] && of[1] > facts[next][1])) {
                    next = i;
                }
            }
            if (next >= 0) {
                isListed[next] = true;
                list.append(list.length() > 0 ? " " : "").append(next);
            }
        }
        return list.toString();
    }

    private static long wrapped(long... values) {
        BigInteger d = BigInteger.valueOf(7310);
        for (long v : values) {
            d = d.multiply(BigInteger.valueOf(31)).add(BigInteger.valueOf(v));
        }
        return d.longValue();
    }

    private static void wrapsAround() {
        Sentence.of(50, "A number d starts with 7310; then d becomes d * 31 + v, which wraps around as a 64-bit integer");
        long[] values = new long[12 + 1 + 3 * 30 + 4];
        for (int desk = 0; desk < 3; desk++) {
            values[13 + desk * 30 + 8] = 480;
            values[13 + desk * 30 + 9] = 480;
        }
        values[values.length - 1] = 1;
        Check.is("a new one, by numbers that do not wrap around", new Newsfold().digest(), wrapped(values));
        values[9] = -54;
        values[3] = 20000;
        Newsfold x = new Newsfold();
        for (int i = 0; i < 34; i++) {
            x.tick(i < 33 ? 600 : 200);
        }
        x.bar(-54);
        for (int desk = 0; desk < 3; desk++) {
            values[13 + desk * 30 + 5] = 14;
            values[13 + desk * 30 + 9] = 640;
            values[13 + desk * 30 + 29] = 6;
        }
        Check.is("a late one, with a value below 0", x.digest(), wrapped(values));
        Sentence.of(50, "Returns d.");
        Check.is("the same for two that are alike", Edge.rich().digest() == Edge.rich().digest(), true);
    }

    private static void eachValue() {
        Sentence.of(50, "for each v in this order:");
        told("a rich one", Edge::rich);
        told("a full one", HouseEdges::full);
        told("40 alone", Edge::forty);
        told("40 in one STORY", StoryEdges::chain);
        told("40 with RULES and MARKS", () -> ruled(Edge.forty()));
        told("40 that would go", HouseEdges::going);
        told("nothing is KEPT", HouseEdges::gone);
        told("one would go, if CLOCK were one more", HouseEdges::young);
        for (int digests = 1; digests < 8; digests++) {
            int made = digests;
            told(made + " DIGESTS", () -> mornings(made));
        }
        for (int clock : new int[] {1, 9, 10, 11, 89, 90, 99, 100, 109, 110, 111, 899, 900, 999, 1000, 1099, 9999, 10000, 10999, 20000}) {
            told("a FETCH and a DIGEST at CLOCK " + clock, () -> at(clock));
        }
    }

    private static Newsfold young() {
        Newsfold x = Edge.fetched(0, "0,1,a");
        Edge.readOnAll(x, 0);
        return x;
    }

    /** So many DIGESTS of DESK 1, with less and less ITEMS in them. */
    private static Newsfold mornings(int digests) {
        Newsfold x = Edge.forty();
        for (int i = 0; i < digests; i++) {
            Edge.refetched(x, "");
            x.bar(i == 0 ? 1 : 0);
            x.unrule(x.rule(1, 0, 0));
            x.upTo(1, Math.max(20, 39 - 5 * i));
            x.zone(1, 0, i + 1);
            x.tick(1);
        }
        return x;
    }

    private static Newsfold at(int clock) {
        Newsfold x = new Newsfold();
        x.feed(0);
        for (int i = 600; i < clock; i += 600) {
            x.tick(600);
        }
        x.zone(2, 0, clock % 1440);
        x.tick((clock - 1) % 600 + 1);
        Edge.refetched(x, ":;:;:;:;:;:;:;:;:;:;:");
        return x;
    }

    private static void told(String what, Supplier<Newsfold> state) {
        Check.is(what, state.get().digest(), HouseTests.told(state));
    }

    private static Newsfold going() {
        Newsfold x = Edge.forty();
        for (int desk = 0; desk < 3; desk++) {
            x.upTo(desk, 20);
            x.mark(desk, 39, 3, 9);
        }
        for (int i = 0; i < 6; i++) {
            x.rule(3, i % 2, i % 2 == 0 ? -9 : 9);
        }
        x.open(0, 39);
        x.open(0, 9);
        x.tick(600);
        x.send(0, 1);
        return x;
    }

    private static Newsfold gone() {
        Newsfold x = going();
        Check.is("all of them go", x.forget(0) + " " + x.house(1), "40 0");
        return x;
    }
}
