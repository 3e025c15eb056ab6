import java.lang.reflect.Array;
import java.lang.reflect.Field;

/** Promise 49 from within: no run of calls makes a state that is not sound, so it is broken by hand, part by part. */
final class SoundTests {
    private SoundTests() { }

    static void run() {
        Check.is("sound before it is broken", state().isSound(), true);
        names();
        stories();
        marks();
        rows();
        digests();
        shownAndApart();
        feeds();
    }

    /** ITEMS 0 and 1 are one STORY, 2 is alone, 3 is GONE; a DIGEST of DESK 0 holds 0, 1 and 2. */
    private static Newsfold state() {
        Newsfold x = Check.fetched("1,10,aa bb;2,20,bb aa;3,30,cc;4,40,dd");
        x.feed(1);
        for (int d = 0; d < 3; d++) {
            x.mark(d, 3, 0, 1);
        }
        x.tick(40);
        x.forget(0);
        x.zone(0, 0, 50);
        x.tick(10);
        x.rule(1, 0, 2);
        x.open(1, 0);
        x.mark(1, 2, 3, 7);
        x.apart(0, 2, true);
        x.send(1, 2);
        x.arrive(0, false);
        x.send(0, 1);
        x.arrive(0, false);
        return x;
    }

    private static void broken(String what, Newsfold x) {
        unsound(what, x);
        Check.is("digest tells it: " + what, x.digest(), HouseTests.told(() -> x));
    }

    /** For objects with many ITEMS: to tell their checksum takes too many calls. */
    private static void unsound(String what, Newsfold x) {
        Check.is("isSound: " + what, x.isSound(), false);
    }

    private static void names() {
        Sentence.of(49, "no two ITEMS that came have FEED and NAME alike;");
        Newsfold x = state();
        set(x, "items.all.2.name", 2);
        broken("FEED and NAME alike", x);
        x = state();
        set(x, "items.all.3.name", 1);
        broken("also of those that are GONE", x);
        x = state();
        set(x, "items.all.2.name", 2);
        set(x, "items.all.2.feed", 1);
        Check.is("isSound: the NAME alone is alike", x.isSound(), true);
    }

    private static void stories() {
        Sentence.of(49, "each STORY is what one comes to by going from ITEM to ITEM;");
        Newsfold x = state();
        set(x, "stories.number.2", 0);
        broken("a STORY with one too many", x);
        x = state();
        set(x, "stories.number.1", 1);
        broken("a STORY with one too few", x);
        x = state();
        set(x, "stories.number.0", 1);
        broken("a STORY told by another number", x);
        x = state();
        set(x, "stories.size.1", 3);
        broken("a STORY that tells another size", x);
        for (int alone : new int[] {0, 20, 39}) {
            x = Edge.forty();
            set(x, "stories.size." + alone, 2);
            unsound("a STORY of one that tells another size", x);
        }
        x = state();
        set(x, "items.all.1.time", 731);
        broken("TIMES that are too far for AKIN ones", x);
        x = state();
        set(x, "items.all.1.time", 730);
        Check.is("isSound: TIMES that are just near enough", x.isSound(), true);
    }

    private static void marks() {
        Sentence.of(49, "a MARK has a value other than 0 only with a STAMP, of which the count is no more than the ROW of its DESK has for the DESK that it tells;");
        Newsfold x = state();
        set(x, "desks.0.value.0", 1);
        broken("a value without a STAMP", x);
        for (int desk = 0; desk < 3; desk++) {
            for (int place : new int[] {0, 1, 80, 159}) {
                x = Edge.forty();
                x.mark((desk + 1) % 3, 7, 3, 1);
                x.mark((desk + 2) % 3, 7, 3, 1);
                x.mark((desk + 2) % 3, 7, 3, 2);
                Check.is("isSound: unlike ROWS", x.isSound(), true);
                set(x, "desks." + desk + ".value." + place, 1);
                unsound("a value without a STAMP at " + place, x);
                set(x, "desks." + desk + ".value." + place, 0);
                set(x, "desks." + desk + ".stamp." + place, 3 * 9 + desk);
                unsound("a STAMP above the ROW at " + place, x);
            }
        }
        x = state();
        set(x, "desks.1.stamp.4", 3 * (int) get(x, "desks.1.row.0") + 3);
        broken("a STAMP whose count is above the ROW", x);
        x = state();
        set(x, "desks.1.stamp.4", 3 * (int) get(x, "desks.1.row.0"));
        Check.is("isSound: a STAMP whose count is just in the ROW", x.isSound(), true);
    }

    private static void rows() {
        Sentence.of(49, "no KNOWN number is above that of the ROW it is of;");
        Sentence.of(49, "DESKS with the same ROW have the same MARKS and STAMPS;");
        Newsfold x = state();
        set(x, "desks.1.knows.0", (int) get(x, "desks.0.row.0") + 1);
        broken("KNOWN above the ROW that it is of", x);
        x = state();
        set(x, "desks.2.knows.5", (int) get(x, "desks.1.row.2") + 1);
        broken("KNOWN above the ROW, of another DESK", x);
        for (int i = 0; i < 27; i++) {
            x = state();
            int row = (int) get(x, "desks." + i / 3 % 3 + ".row." + i % 3);
            if (i / 9 != i / 3 % 3) {
                set(x, "desks." + i / 9 + ".knows." + i % 9, row + 1);
                broken("KNOWN number " + i + " above the ROW", x);
            }
        }
        for (int desk = 0; desk < 3; desk++) {
            for (int place : new int[] {0, 1, 80, 159}) {
                x = sameRows(desk);
                set(x, "desks." + desk + ".value." + place, 0);
                unsound("the same ROW with unlike values at " + place, x);
                x = sameRows(desk);
                set(x, "desks." + desk + ".stamp." + place, place == 1 ? 6 : 3);
                unsound("the same ROW with unlike STAMPS at " + place, x);
            }
        }
        x = state();
        for (int d = 0; d < 3; d++) {
            set(x, "desks.2.row." + d, get(x, "desks.1.row." + d));
        }
        Check.is("isSound: the same ROW with the same MARKS", x.isSound(), true);
        set(x, "desks.2.value.11", 6);
        broken("the same ROW with unlike values", x);
        set(x, "desks.2.value.11", 7);
        Check.is("isSound: mended", x.isSound(), true);
        set(x, "desks.2.stamp.11", (int) get(x, "desks.2.stamp.11") - 3);
        unsound("the same ROW with unlike STAMPS", x);
    }

    /** DESK 0 acted; that DESK and it have the same ROW, the third DESK has another one. */
    private static Newsfold sameRows(int desk) {
        Newsfold x = Edge.forty();
        x.mark(0, 0, 1, 1);
        x.mark(0, 0, 0, 1);
        x.mark(0, 20, 0, 1);
        x.mark(0, 39, 3, 1);
        int other = desk == 0 ? 2 : desk;
        x.send(0, other);
        x.arrive(0, false);
        Check.is("isSound: the same ROW", x.isSound() + " " + x.known(other, other, 0), "true 4");
        return x;
    }

    private static void digests() {
        Sentence.of(49, "DIGESTS that are kept hold no ITEM twice for a DESK;");
        Newsfold x = state();
        Check.is("the DIGEST", x.morning(0, 0), "50: 2 1 0");
        set(x, "desks.0.digests.0.row.2", 2);
        broken("an ITEM twice in a DIGEST", x);
        x = state();
        x.tick(600);
        x.tick(600);
        x.tick(240);
        Check.is("the next DIGEST", x.morning(0, 0) + "|" + x.morning(0, 1), "1490:|50: 2 1 0");
        Check.is("isSound: two DIGESTS", x.isSound(), true);
        set(x, "desks.0.digests.1.size", 1);
        set(x, "desks.0.digests.1.row.0", 1);
        broken("an ITEM in two DIGESTS", x);
        for (int desk = 0; desk < 3; desk++) {
            x = Edge.forty();
            x.zone(desk, 0, 1);
            x.tick(1);
            x.zone(desk, 0, 2);
            x.tick(1);
            x.zone(desk, 0, 3);
            x.tick(1);
            Check.is("isSound: three DIGESTS", x.isSound(), true);
            set(x, "desks." + desk + ".digests.0.row.39", 19);
            unsound("the first ITEM again as the last one", x);
            set(x, "desks." + desk + ".digests.0.row.39", 20);
            set(x, "desks." + desk + ".digests.2.size", 1);
            set(x, "desks." + desk + ".digests.2.row.0", 39);
            unsound("an ITEM in the first and the third DIGEST", x);
        }
    }

    private static void shownAndApart() {
        Sentence.of(49, "SHOWN and pairs APART are of KEPT ITEMS;");
        Newsfold x = state();
        set(x, "shown.row.0", 3);
        broken("SHOWN is GONE", x);
        x = state();
        x.open(0, 1);
        x.open(0, 2);
        set(x, "shown.row.2", 3);
        broken("the last of SHOWN is GONE", x);
        x = state();
        set(x, "items.apartFrom.3", 1L);
        set(x, "items.apartFrom.0", (long) get(x, "items.apartFrom.0") | 8L);
        broken("a pair APART with one that is GONE", x);
    }

    private static void feeds() {
        Sentence.of(49, "and no FEED is DUE ahead of CLOCK.");
        Newsfold x = state();
        for (int feed = 0; feed < 2; feed++) {
            x = state();
            set(x, "feeds." + feed + ".due", x.house(3) - 1);
            broken("a FEED that was DUE", x);
        }
        set(x, "feeds.1.due", x.house(3));
        Check.is("isSound: a FEED that is DUE now", x.isSound(), true);
        set(x, "feeds.2.due", -1);
        Check.is("isSound: a FEED that did not come", x.isSound(), true);
    }

    private static Object get(Object from, String path) {
        Object at = from;
        for (String step : path.split("\\.")) {
            at = at.getClass().isArray() ? Array.get(at, Integer.parseInt(step)) : valueOf(at, step);
        }
        return at;
    }

    private static Object valueOf(Object of, String field) {
        try {
            return fieldOf(of, field).get(of);
        } catch (IllegalAccessException e) {
            throw new IllegalStateException(e);
        }
    }

    private static Field fieldOf(Object of, String field) {
        try {
            Field f = of.getClass().getDeclaredField(field);
            f.setAccessible(true);
            return f;
        } catch (NoSuchFieldException e) {
            throw new IllegalStateException(e);
        }
    }

    private static void set(Object from, String path, Object value) {
        int dot = path.lastIndexOf('.');
        Object holder = get(from, path.substring(0, dot));
        String last = path.substring(dot + 1);
        if (holder.getClass().isArray()) {
            Array.set(holder, Integer.parseInt(last), value);
            return;
        }
        try {
            fieldOf(holder, last).set(holder, value);
        } catch (IllegalAccessException e) {
            throw new IllegalStateException(e);
        }
    }
}
