import java.util.ArrayList;
import java.util.List;
import java.util.function.Supplier;

/** Promises 47 to 50: the house, whether all is sound, the checksum. */
final class HouseTests {
    private HouseTests() { }

    static void run() {
        knock();
        house();
        isSound();
        digest();
    }

    private static void knock() {
        Newsfold x = new Newsfold();
        for (int i = 1; i < 6; i++) {
            Check.is("knock", x.knock(), i);
        }
        Check.is("house(11)", x.house(11), 5);
        Check.is("of that object alone", new Newsfold().knock(), 1);
    }

    private static Newsfold full() {
        Newsfold x = Check.fetched("1,10,aa bb;2,20,bb aa;3,30,aa;4,40,b c");
        x.feed(1);
        x.feed(1);
        x.rule(0, 0, 2);
        x.rule(4, 2, -3);
        x.ask(0, 2, 1, true);
        x.ask(0, 4, 1, false);
        x.ask(2, 0, 0, false);
        x.apart(0, 3, true);
        x.bar(-7);
        x.zone(0, 0, 9);
        x.tick(15);
        x.open(0, 1);
        x.upTo(1, 0);
        x.mark(2, 3, 2, 4);
        x.mark(2, 1, 3, 9);
        x.send(0, 1);
        x.send(1, 2);
        x.arrive(1, true);
        for (int d = 0; d < 3; d++) {
            x.mark(d, 2, 0, 1);
        }
        x.tick(20);
        x.forget(0);
        x.knock();
        return x;
    }

    private static void house() {
        Newsfold x = full();
        int[] due = {3, 3, 4, 35, 2, 2, 38, 2, 1, -7, 3, 1};
        for (int what = 0; what < due.length; what++) {
            Check.is("house(" + what + ")", x.house(what), due[what]);
        }
        Check.argument("house(12)", x, () -> x.house(12));
        Check.argument("house(-1)", x, () -> x.house(-1));
    }

    private static void isSound() {
        Check.is("isSound", full().isSound(), true);
        Edge.asks("isSound", HouseTests::full, Newsfold::isSound);
    }

    private static void digest() {
        Check.is("digest of a new object", new Newsfold().digest(), told(Newsfold::new));
        Check.is("digest", full().digest(), told(HouseTests::full));
        Check.is("digest of another state", other().digest(), told(HouseTests::other));
        Edge.asks("digest", HouseTests::full, Newsfold::digest);
        Newsfold y = read();
        Check.is("what is READ at once would go by 0 alone", y.would(0) + "|" + y.would(1), "0|");
        Check.is("digest has would(0)", y.digest(), told(HouseTests::read));
    }

    private static Newsfold other() {
        Newsfold x = full();
        x.mark(0, 0, 3, 1);
        return x;
    }

    private static Newsfold read() {
        Newsfold x = Check.fetched("1,0,aa");
        for (int d = 0; d < 3; d++) {
            x.upTo(d, 0);
        }
        return x;
    }

    private static final int MOST_ASKS = 250;
    private static long sum;
    private static Supplier<Newsfold> state;
    private static Newsfold asked;
    private static int asks;

    private static void mix(long v) {
        sum = sum * 31 + v;
    }

    /** The object to ask: another one with the same state, before it gets too many calls. */
    private static Newsfold x() {
        asks++;
        if (asks > MOST_ASKS) {
            asks = 0;
            asked = state.get();
        }
        return asked;
    }

    /** The checksum as the document tells it, by the other calls alone. */
    static long told(Supplier<Newsfold> itsState) {
        state = itsState;
        asked = state.get();
        asks = 0;
        sum = 7310;
        for (int what = 0; what < 12; what++) {
            mix(x().house(what));
        }
        int feeds = x().house(0);
        for (int f = 0; f < feeds; f++) {
            for (int what = 0; what < 9; what++) {
                mix(x().ofFeed(f, what));
            }
        }
        mix(x().fetched(0).length());
        List<Integer> kept = kept();
        for (int i : kept) {
            mix(i);
            for (int what = 0; what < 11; what++) {
                mix(x().ofItem(i, what));
            }
            mix(x().text(i).length());
            mix(x().reasons(i).length());
        }
        for (int d = 0; d < 3; d++) {
            mixDesk(d, kept);
        }
        int letters = x().house(5);
        for (int l = 0; l < letters; l++) {
            for (int what = 0; what < 6; what++) {
                mix(x().ofLetter(l, what));
            }
        }
        mix(x().unlike());
        mix(x().shown().length());
        mix(x().would(0).length());
        mix(x().isSound() ? 1 : 0);
        return sum;
    }

    private static List<Integer> kept() {
        List<Integer> kept = new ArrayList<>();
        int came = x().house(2);
        for (int i = 0; i < came; i++) {
            if (Check.isKept(x(), i)) {
                kept.add(i);
            }
        }
        return kept;
    }

    private static void mixDesk(int desk, List<Integer> kept) {
        for (int what = 0; what < 10; what++) {
            mix(x().ofDesk(desk, what));
        }
        for (int other = 0; other < 3; other++) {
            for (int of = 0; of < 3; of++) {
                mix(x().known(desk, other, of));
            }
        }
        for (int view = 0; view < 10; view++) {
            mix(x().list(desk, view).length());
        }
        mix(x().morning(desk, 0).length());
        for (int i : kept) {
            for (int what = 0; what < 4; what++) {
                mix(x().marked(desk, i, what, false));
                mix(x().marked(desk, i, what, true));
            }
        }
    }
}
