import java.lang.reflect.InvocationTargetException;
import java.lang.reflect.Method;
import java.util.ArrayList;
import java.util.HashMap;
import java.util.List;
import java.util.Map;
import java.util.Random;
import java.util.Set;
import java.util.TreeSet;

/** Plays the same random calls on a Newsfold and on the Model, and compares every answer. */
public final class RandomRuns {
    private static final int CALLS = 512;
    private static final Map<String, Method> REAL = methods(Newsfold.class);
    private static final Map<String, Method> MODEL = methods(Model.class);
    private static final String[] NAMES = REAL.keySet().stream().sorted().toArray(String[]::new);

    private final Random luck;
    private final Newsfold real = new Newsfold();
    private final Model model = new Model();
    private final List<String> told = new ArrayList<>();
    private final int oddOnes;
    private final int letters;
    private final int flavour;

    RandomRuns(long seed) {
        luck = new Random(seed);
        oddOnes = luck.nextInt(3) == 0 ? 8 : 40;
        letters = 2 + luck.nextInt(7);
        flavour = luck.nextInt(4);
    }

    private static Map<String, Method> methods(Class<?> of) {
        Map<String, Method> found = new HashMap<>();
        for (Method m : of.getDeclaredMethods()) {
            if (java.lang.reflect.Modifier.isPublic(m.getModifiers())) {
                found.put(m.getName(), m);
            }
        }
        return found;
    }

    /** "" if both agree in all calls, otherwise the run with the call that differs. */
    static String play(long seed) {
        return new RandomRuns(seed).run();
    }

    private String run() {
        for (int i = 0; i < CALLS; i++) {
            String name = i == CALLS - 1 || luck.nextInt(25) == 0 ? "digest" : choice();
            Object[] args = args(name);
            String got = answer(real, REAL.get(name), args);
            String due = answer(model, MODEL.get(name), args);
            told.add(name + java.util.Arrays.toString(args) + " -> " + got);
            if (!got.equals(due)) {
                return String.join("\n", told) + "\ndue is " + due;
            }
        }
        return "";
    }

    private static String answer(Object on, Method call, Object[] args) {
        try {
            return String.valueOf(call.invoke(on, args));
        } catch (InvocationTargetException e) {
            return "throws." + e.getCause().getClass().getSimpleName();
        } catch (IllegalAccessException e) {
            throw new IllegalStateException(e);
        }
    }

    private static final String[] OFTEN = {"say", "put", "write", "write", "write", "write", "write", "poke", "fetch", "fetch",
        "tick", "zone", "mark", "mark", "mark", "open", "upTo", "undo", "send", "send", "arrive", "arrive"};
    private static final String[] READING = {"mark", "upTo", "upTo", "open", "send", "arrive", "forget", "tick", "would", "undo"};

    private String choice() {
        if (model.feeds.size() < 2 && luck.nextInt(2) == 0) {
            return luck.nextBoolean() ? "feed" : "bring";
        }
        int k = luck.nextInt(10);
        if (k < 5) {
            return OFTEN[luck.nextInt(OFTEN.length)];
        }
        if (k < 7 && flavour != 0) {
            return READING[luck.nextInt(READING.length)];
        }
        return NAMES[luck.nextInt(NAMES.length)];
    }

    private int upTo(int least, int most) {
        return most < least ? least : least + luck.nextInt(most - least + 1);
    }

    /** Mostly within, now and then at the edges, just outside, or far away. */
    private int odd(int least, int most) {
        if (luck.nextInt(oddOnes) == 0) {
            int[] odd = {least - 1, least, most, most + 1, Integer.MIN_VALUE, Integer.MAX_VALUE};
            return odd[luck.nextInt(odd.length)];
        }
        return upTo(least, most);
    }

    private int aFeed() {
        return odd(0, model.feeds.size() - 1);
    }

    private int anItem() {
        if (luck.nextInt(oddOnes) == 0 || model.kept().isEmpty()) {
            return odd(-1, 41);
        }
        List<Model.News> kept = model.kept();
        return kept.get(luck.nextInt(kept.size())).number;
    }

    private int aWord() {
        return luck.nextInt(oddOnes) == 0 ? odd(0, 63) : 8 * luck.nextInt(2) + luck.nextInt(letters);
    }

    private int aTime() {
        return luck.nextInt(4) == 0 ? odd(0, 9999) : luck.nextInt(3) * 720 + upTo(0, 2);
    }

    private int aDesk() {
        return odd(0, 2);
    }

    private Object[] args(String name) {
        switch (name) {
            case "say": return typing();
            case "feed": return new Object[] {odd(0, 1)};
            case "put": case "page": case "fetch": return new Object[] {aFeed()};
            case "write": return writing();
            case "poke": return poking();
            case "tick": return new Object[] {luck.nextInt(3) > 0 ? upTo(1, 70) : odd(1, 600)};
            case "ofFeed": return new Object[] {aFeed(), odd(0, 8)};
            case "fetched": return new Object[] {odd(0, 6)};
            case "ofItem": return new Object[] {anItem(), odd(0, 10)};
            case "text": case "story": case "reasons": return new Object[] {anItem()};
            case "find": return new Object[] {aFeed(), odd(0, 196)};
            case "apart": return holding();
            case "common": return new Object[] {anItem(), anItem()};
            case "rule": return new Object[] {odd(0, 4), luck.nextBoolean() ? odd(0, 3) : odd(0, 99), odd(-9, 9)};
            case "unrule": return new Object[] {odd(0, model.rules.size() - 1)};
            case "list": return new Object[] {aDesk(), odd(0, 9)};
            case "ask": return new Object[] {odd(0, 2), odd(0, 7), luck.nextInt(3) > 0 ? odd(0, 4) : odd(0, 99), luck.nextBoolean()};
            case "unask": return new Object[] {odd(0, 2)};
            case "search": return new Object[] {aWord(), luck.nextBoolean() ? -1 : aWord()};
            case "hours": return new Object[] {odd(-1, model.feeds.size() - 1), luck.nextBoolean() ? odd(0, 23) : 12};
            case "mark": return new Object[] {aDesk(), anItem(), odd(0, 3), luck.nextBoolean() ? odd(0, 1) : odd(0, 9)};
            case "open": case "upTo": return new Object[] {aDesk(), anItem()};
            case "undo": return new Object[] {aDesk()};
            case "marked": return new Object[] {aDesk(), anItem(), odd(0, 3), luck.nextBoolean()};
            case "send": return sending();
            case "arrive": return new Object[] {odd(0, model.way.size() - 1), luck.nextInt(3) == 0};
            case "lose": return new Object[] {odd(0, model.way.size() - 1)};
            case "ofLetter": return new Object[] {odd(0, model.way.size() - 1), odd(0, 5)};
            case "known": return new Object[] {aDesk(), aDesk(), aDesk()};
            case "ofDesk": return new Object[] {aDesk(), odd(0, 9)};
            case "zone": return luck.nextBoolean() ? new Object[] {aDesk(), odd(-720, 840), odd(0, 1439)}
                : new Object[] {aDesk(), 0, (model.clock + upTo(0, 60)) % 1440};
            case "bar": return new Object[] {luck.nextBoolean() ? odd(-54, 54) : odd(-3, 3)};
            case "morning": return new Object[] {aDesk(), odd(0, 3)};
            case "forget": case "would": return new Object[] {luck.nextInt(3) == 0 ? odd(0, 9999) : 0};
            case "house": return new Object[] {odd(0, 11)};
            default: return new Object[0];
        }
    }

    /** Texts of WORDS in a chain are AKIN to their neighbours, as long as these are RARE. */
    private Object[] writing() {
        int name = luck.nextInt(3) == 0 ? -1 : odd(0, upTo(1, 99));
        if (flavour > 1 && luck.nextInt(4) > 0) {
            int first = luck.nextInt(letters * 6);
            return new Object[] {aFeed(), name, aTime(), first, first + 1, luck.nextInt(3) == 0 ? -1 : first + 2};
        }
        return new Object[] {aFeed(), name, aTime(), aWord(), luck.nextInt(4) == 0 ? -1 : aWord(),
            luck.nextInt(3) == 0 ? -1 : aWord()};
    }

    private Object[] holding() {
        for (Set<Integer> story : model.stories()) {
            if (story.size() > 1 && luck.nextInt(3) > 0) {
                List<Integer> of = new ArrayList<>(story);
                return new Object[] {of.get(luck.nextInt(of.size())), of.get(luck.nextInt(of.size())), true};
            }
        }
        for (Set<Integer> pair : model.apart) {
            if (luck.nextInt(2) == 0) {
                List<Integer> of = new ArrayList<>(new TreeSet<>(pair));
                return new Object[] {of.get(0), of.get(1), luck.nextInt(3) == 0};
            }
        }
        return new Object[] {anItem(), anItem(), luck.nextInt(3) > 0};
    }

    private Object[] sending() {
        int from = aDesk();
        return new Object[] {from, luck.nextInt(10) == 0 ? aDesk() : (from + upTo(1, 2)) % 3};
    }

    private Object[] poking() {
        int feed = aFeed();
        boolean isThere = feed >= 0 && feed < model.feeds.size();
        return new Object[] {feed, odd(0, isThere ? model.feeds.get(feed).page.length() - 1 : 3), odd(0, 24)};
    }

    private static final int[][] PHRASES = {{20, 9, 10, 20, 0, 19}, {21, 0, 23, 11, 22, -1}, {9, 24, 14, 9, 19, -1},
        {10, 24, 10, 14, -1, 26}, {26, 10, 24, 14, 9, 19}, {26, 9, 24, 11, 9, 19}, {1, 8, 8, 1, 2, 8}, {20, 20, 19, 19, 8, 22},
        {0, 1, 8, 0, 2, 19}, {10, 20, 15, 20, 1, 19}, {12, 20, 12, 20, 0, 0}, {23, 11, 12, 23, 10, 22}, {21, 0, 0, 8, 0, 1}};

    private Object[] typing() {
        Object[] codes = new Object[6];
        int kind = luck.nextInt(5);
        int[] phrase = PHRASES[luck.nextInt(PHRASES.length)];
        for (int i = 0; i < codes.length; i++) {
            codes[i] = kind < 3 ? phrase[i] : kind == 3 ? upTo(0, 8) : odd(-1, luck.nextInt(6) == 0 ? 26 : 24);
        }
        return codes;
    }

    public static void main(String[] args) {
        long from = args.length > 0 ? Long.parseLong(args[0]) : 0;
        long to = args.length > 1 ? Long.parseLong(args[1]) : 100;
        for (long seed = from; seed < to; seed++) {
            String wrong = play(seed);
            if (!wrong.isEmpty()) {
                System.out.println("seed " + seed + "\n" + wrong);
                System.exit(1);
            }
        }
        System.out.println("runs " + from + " to " + to + " agree");
    }
}
