import java.math.BigInteger;
import java.util.ArrayDeque;
import java.util.ArrayList;
import java.util.Collections;
import java.util.HashMap;
import java.util.HashSet;
import java.util.LinkedHashMap;
import java.util.LinkedHashSet;
import java.util.List;
import java.util.Map;
import java.util.Set;
import java.util.TreeSet;
import java.util.regex.Matcher;
import java.util.regex.Pattern;

/**
 * The document told a second time, slowly and with the whole Java library: nothing is remembered that
 * can be found anew. RandomRuns plays the same calls on it and on Newsfold.
 */
public final class Model {
    static final String ALL_SIGNS = "abcdefgh 0123456789;,<>/:";

    static final class Source {
        int form;
        int gap;
        int due;
        int fetches;
        int faults;
        String page = "";
    }

    static final class Entry {
        int name;
        int time;
        String text;
    }

    static final class News {
        int number;
        int feed;
        int name;
        int time;
        String text;
        int changed;
        int change;
        int cameAt;
        boolean kept = true;

        Set<String> words() {
            return new HashSet<>(List.of(text.split(" ")));
        }
    }

    record Value(int value, int stamp) { }

    record Act(int item, int what, int before, int stamp) { }

    record Mail(int from, int to, int[] row, Map<String, Value> marks) { }

    record Law(int kind, int value, int points) { }

    record Condition(int kind, int value, boolean isNot) { }

    record Paper(int clock, List<Integer> items) { }

    final class Table {
        final int number;
        final Map<String, Value> marks = new HashMap<>();
        int count = 0;
        final int[] row = new int[3];
        final int[][] known = new int[3][3];
        final List<List<Act>> steps = new ArrayList<>();
        final List<Paper> papers = new ArrayList<>();
        int zone = 0;
        int morning = 480;

        Table(int number) {
            this.number = number;
        }

        Value mark(int item, int what) {
            return marks.getOrDefault(item + "/" + what, new Value(0, 0));
        }

        boolean act(int item, int what, int value, List<Act> acts) {
            Value before = mark(item, what);
            if (before.value == value) {
                return false;
            }
            count++;
            row[number] = count;
            marks.put(item + "/" + what, new Value(value, 3 * count + number));
            if (acts != null) {
                acts.add(new Act(item, what, before.value, 3 * count + number));
            }
            return true;
        }

        void keep(List<Act> acts) {
            if (!acts.isEmpty()) {
                steps.add(acts);
                if (steps.size() > 5) {
                    steps.remove(0);
                }
            }
        }
    }

    String typed = "";
    final List<Source> feeds = new ArrayList<>();
    final List<News> items = new ArrayList<>();
    final List<String> fetches = new ArrayList<>();
    final Set<Set<Integer>> apart = new HashSet<>();
    final List<Law> rules = new ArrayList<>();
    final List<List<Condition>> questions = List.of(new ArrayList<>(), new ArrayList<>(), new ArrayList<>());
    final List<Table> desks = List.of(new Table(0), new Table(1), new Table(2));
    final List<Mail> way = new ArrayList<>();
    final List<Integer> shown = new ArrayList<>();
    int clock = 0;
    int bar = 0;
    int knocks = 0;
    List<TreeSet<Integer>> storiesNow = null;

    // ---- reading

    static boolean isNumber(String s, int most) {
        return s.matches("[0-9]+") && new BigInteger(s).compareTo(BigInteger.valueOf(most)) <= 0;
    }

    static Entry entry(String name, String time, String words) {
        if (name != null && !isNumber(name, 99) || !isNumber(time, 9999) || !words.matches("[a-h ]*")) {
            return null;
        }
        List<String> list = new ArrayList<>();
        for (String w : words.split(" ")) {
            if (!w.isEmpty()) {
                list.add(w);
            }
        }
        if (list.isEmpty() || list.size() > 5) {
            return null;
        }
        Entry e = new Entry();
        e.text = String.join(" ", list);
        e.time = new BigInteger(time).intValue();
        if (name == null) {
            int s = 0;
            for (char c : e.text.toCharArray()) {
                s = (7 * s + (c == ' ' ? 0 : c - 'a' + 1)) % 97;
            }
            e.name = 100 + s;
        } else {
            e.name = new BigInteger(name).intValue();
        }
        return e;
    }

    static List<String> pieces(String s) {
        List<String> pieces = new ArrayList<>();
        for (String p : s.split(";", -1)) {
            if (!p.isEmpty()) {
                pieces.add(p);
            }
        }
        return pieces;
    }

    /** Null stands for a FAULT. */
    static List<Entry> entries(Source feed) {
        List<Entry> found = new ArrayList<>();
        if (feed.form == 0) {
            for (String p : pieces(feed.page)) {
                String[] parts = p.split(",", -1);
                found.add(parts.length == 3 ? entry(parts[0].isEmpty() ? null : parts[0], parts[1], parts[2]) : null);
            }
            return found;
        }
        String rest = feed.page;
        Pattern tag = Pattern.compile("[^<]*<([^<>]*)(.?)(.*)");
        while (true) {
            Matcher m = tag.matcher(rest);
            if (!m.matches()) {
                return found;
            }
            if (!m.group(2).equals(">")) {
                found.add(null);
                rest = m.group(2) + m.group(3);
                continue;
            }
            String[] parts = m.group(1).split("/", -1);
            found.add(parts.length == 2 ? entry(null, parts[1], parts[0])
                : parts.length == 3 ? entry(parts[2], parts[1], parts[0]) : null);
            rest = m.group(3);
        }
    }

    // ---- stories, scores

    List<News> kept() {
        List<News> list = new ArrayList<>();
        for (News n : items) {
            if (n.kept) {
                list.add(n);
            }
        }
        return list;
    }

    boolean isRare(String word) {
        int n = 0;
        for (News k : kept()) {
            n += k.words().contains(word) ? 1 : 0;
        }
        return n <= 3;
    }

    int commonOf(int a, int b) {
        Set<String> both = items.get(a).words();
        both.retainAll(items.get(b).words());
        both.removeIf(w -> !isRare(w));
        return both.size();
    }

    boolean isAkin(int a, int b) {
        return a != b && Math.abs(items.get(a).time - items.get(b).time) <= 720 && !apart.contains(Set.of(a, b))
            && commonOf(a, b) >= 2;
    }

    /** As of the last change; found anew after each fetch(), tick(), apart() and forget(). */
    List<TreeSet<Integer>> stories() {
        if (storiesNow == null) {
            storiesNow = foundStories();
        }
        return storiesNow;
    }

    List<TreeSet<Integer>> foundStories() {
        List<News> left = kept();
        List<TreeSet<Integer>> all = new ArrayList<>();
        Set<Integer> met = new HashSet<>();
        for (News n : left) {
            if (met.contains(n.number)) {
                continue;
            }
            TreeSet<Integer> story = new TreeSet<>();
            ArrayDeque<Integer> open = new ArrayDeque<>(List.of(n.number));
            while (!open.isEmpty()) {
                int x = open.poll();
                if (story.add(x)) {
                    for (News o : left) {
                        if (isAkin(x, o.number)) {
                            open.add(o.number);
                        }
                    }
                }
            }
            met.addAll(story);
            all.add(story);
        }
        return all;
    }

    TreeSet<Integer> storyOf(int item, List<TreeSet<Integer>> stories) {
        for (TreeSet<Integer> s : stories) {
            if (s.contains(item)) {
                return s;
            }
        }
        throw new AssertionError();
    }

    static String word(int w) {
        return "" + ALL_SIGNS.charAt(w / 8) + ALL_SIGNS.charAt(w % 8);
    }

    boolean hasWord(News n, int w) {
        return w <= 63 && n.words().contains(word(w));
    }

    int readers(int item) {
        int n = 0;
        for (Table t : desks) {
            n += t.mark(item, 0).value;
        }
        return n;
    }

    boolean fits(Law r, News n, List<TreeSet<Integer>> stories) {
        return switch (r.kind) {
            case 0 -> hasWord(n, r.value);
            case 1 -> n.feed == r.value;
            case 2 -> clock - n.time >= 60 * r.value;
            case 3 -> readers(n.number) >= r.value;
            default -> storyOf(n.number, stories).size() >= r.value;
        };
    }

    int score(News n, List<TreeSet<Integer>> stories) {
        int sum = 0;
        for (Law r : rules) {
            sum += fits(r, n, stories) ? r.points : 0;
        }
        return sum;
    }

    boolean isIn(int view, Table t, News n, List<TreeSet<Integer>> stories) {
        if (view == 0) {
            return true;
        }
        if (view == 1) {
            return t.mark(n.number, 0).value == 0;
        }
        if (view == 2) {
            return t.mark(n.number, 1).value == 1;
        }
        if (view <= 6) {
            return t.mark(n.number, 2).value == view - 2;
        }
        for (Condition c : questions.get(view - 7)) {
            boolean is = switch (c.kind) {
                case 0 -> hasWord(n, c.value);
                case 1 -> n.feed == c.value;
                case 2 -> t.mark(n.number, 0).value == c.value;
                case 3 -> t.mark(n.number, 1).value == c.value;
                case 4 -> score(n, stories) >= c.value;
                case 5 -> t.mark(n.number, 2).value == c.value;
                case 6 -> t.mark(n.number, 3).value == c.value;
                default -> storyOf(n.number, stories).size() >= c.value;
            };
            if (is == c.isNot) {
                return false;
            }
        }
        return true;
    }

    List<Integer> ordered(Table t, int view) {
        List<TreeSet<Integer>> stories = stories();
        List<int[]> keys = new ArrayList<>();
        for (News n : kept()) {
            if (isIn(view, t, n, stories)) {
                keys.add(new int[] {-score(n, stories), -n.time, n.number});
            }
        }
        keys.sort((a, b) -> a[0] != b[0] ? a[0] - b[0] : a[1] != b[1] ? a[1] - b[1] : a[2] - b[2]);
        List<Integer> list = new ArrayList<>();
        keys.forEach(k -> list.add(k[2]));
        return list;
    }

    static String joined(Iterable<Integer> all) {
        List<String> list = new ArrayList<>();
        all.forEach(i -> list.add("" + i));
        return String.join(" ", list);
    }

    // ---- fetching

    int fetchNow(int feed) {
        storiesNow = null;
        Source f = feeds.get(feed);
        int came = 0;
        int changed = 0;
        int faults = 0;
        int real = 0;
        for (Entry e : entries(f)) {
            if (e == null) {
                faults++;
                continue;
            }
            real++;
            News n = null;
            for (News i : items) {
                if (i.feed == feed && i.name == e.name) {
                    n = i;
                }
            }
            if (n == null) {
                if (items.size() == 40) {
                    faults++;
                    continue;
                }
                n = new News();
                n.number = items.size();
                n.feed = feed;
                n.name = e.name;
                n.time = e.time;
                n.text = e.text;
                n.cameAt = clock;
                items.add(n);
                came++;
            } else if (n.kept && (e.time > n.time || e.time == n.time && e.text.compareTo(n.text) > 0)) {
                n.change = (e.time != n.time ? 1 : 0) + (e.text.equals(n.text) ? 0 : 2);
                n.changed++;
                n.time = e.time;
                n.text = e.text;
                changed++;
            }
        }
        f.gap = came + changed > 0 ? Math.max(f.gap / 2, 15)
            : faults > 0 && real == 0 ? Math.min(3 * f.gap, 960) : Math.min(2 * f.gap, 480);
        f.due = clock + f.gap;
        f.fetches++;
        f.faults += faults;
        fetches.add(0, feed + "@" + clock + ":" + came + "+" + changed + "!" + faults);
        return came + changed;
    }

    int toMorning(Table t) {
        for (int m = 1; ; m++) {
            if ((clock + m + t.zone - t.morning) % 1440 == 0) {
                return m;
            }
        }
    }

    void minute() {
        clock++;
        List<Integer> due = new ArrayList<>();
        for (int i = 0; i < feeds.size(); i++) {
            if (feeds.get(i).due <= clock) {
                due.add(i);
            }
        }
        due.sort((a, b) -> feeds.get(a).due - feeds.get(b).due);
        due.forEach(this::fetchNow);
        for (Table t : desks) {
            if ((clock + t.zone - t.morning) % 1440 == 0) {
                List<TreeSet<Integer>> stories = stories();
                Set<Integer> before = new HashSet<>();
                t.papers.forEach(p -> before.addAll(p.items));
                List<Integer> list = ordered(t, 1);
                list.removeIf(i -> before.contains(i) || score(items.get(i), stories) < bar);
                t.papers.add(0, new Paper(clock, list));
            }
        }
    }

    // ---- looking at arguments

    void index(boolean isRight) {
        if (!isRight) {
            throw new IndexOutOfBoundsException();
        }
    }

    void argument(boolean isRight) {
        if (!isRight) {
            throw new IllegalArgumentException();
        }
    }

    void state(boolean isRight) {
        if (!isRight) {
            throw new IllegalStateException();
        }
    }

    boolean in(int n, int least, int most) {
        return n >= least && n <= most;
    }

    Source feedOf(int feed) {
        index(in(feed, 0, feeds.size() - 1));
        return feeds.get(feed);
    }

    News itemOf(int item) {
        index(in(item, 0, items.size() - 1) && items.get(item).kept);
        return items.get(item);
    }

    Table deskOf(int desk) {
        index(in(desk, 0, 2));
        return desks.get(desk);
    }

    // ---- the face

    public int say(int a, int b, int c, int d, int e, int f) {
        int[] codes = {a, b, c, d, e, f};
        for (int code : codes) {
            argument(in(code, -1, 26));
        }
        String s = typed;
        for (int code : codes) {
            if (code == 26) {
                s = "";
            } else if (code == 25) {
                s = s.isEmpty() ? "" : s.substring(0, s.length() - 1);
            } else if (code >= 0) {
                s += ALL_SIGNS.charAt(code);
            }
            state(s.length() <= 120);
        }
        typed = s;
        return s.length();
    }

    public String typed() {
        return typed;
    }

    public int feed(int form) {
        argument(in(form, 0, 1));
        state(feeds.size() < 5);
        Source f = new Source();
        f.form = form;
        f.gap = 60;
        f.due = clock;
        feeds.add(f);
        return feeds.size() - 1;
    }

    public int bring() {
        List<int[]> found = new ArrayList<>();
        for (String p : pieces(typed)) {
            String[] parts = p.split(":", -1);
            if (parts.length != 2 || !isNumber(parts[0], 1) || !isNumber(parts[1], 960)
                || new BigInteger(parts[1]).intValue() < 15) {
                return -100 - found.size();
            }
            found.add(new int[] {new BigInteger(parts[0]).intValue(), new BigInteger(parts[1]).intValue()});
        }
        if (feeds.size() + found.size() > 5) {
            return -4;
        }
        for (int[] f : found) {
            feeds.get(feed(f[0])).gap = f[1];
        }
        return found.size();
    }

    public String out() {
        List<String> list = new ArrayList<>();
        feeds.forEach(f -> list.add(f.form + ":" + f.gap));
        return String.join(";", list);
    }

    public int put(int feed) {
        Source f = feedOf(feed);
        int n = f.page.length();
        f.page = typed;
        return n;
    }

    public int write(int feed, int name, int time, int a, int b, int c) {
        Source f = feedOf(feed);
        argument(in(name, -1, 99) && in(time, 0, 9999) && in(a, 0, 63) && in(b, -1, 63) && in(c, -1, 63));
        String words = word(a) + (b < 0 ? "" : " " + word(b)) + (c < 0 ? "" : " " + word(c));
        String s = f.form == 0 ? (name < 0 ? "" : "" + name) + "," + time + "," + words + ";"
            : "<" + words + "/" + time + (name < 0 ? "" : "/" + name) + ">";
        if (f.page.length() + s.length() > 200) {
            return -4;
        }
        f.page += s;
        return f.page.length();
    }

    public int poke(int feed, int place, int code) {
        Source f = feedOf(feed);
        index(in(place, 0, f.page.length() - 1));
        argument(in(code, 0, 24));
        int before = ALL_SIGNS.indexOf(f.page.charAt(place));
        f.page = f.page.substring(0, place) + ALL_SIGNS.charAt(code) + f.page.substring(place + 1);
        return before;
    }

    public String page(int feed) {
        return feedOf(feed).page;
    }

    public int fetch(int feed) {
        feedOf(feed);
        return fetchNow(feed);
    }

    public int tick(int minutes) {
        argument(in(minutes, 1, 600));
        state(clock + minutes <= 20000);
        int before = fetches.size();
        for (int i = 0; i < minutes; i++) {
            minute();
        }
        return fetches.size() - before;
    }

    public int ofFeed(int feed, int what) {
        Source f = feedOf(feed);
        argument(in(what, 0, 8));
        int kept = 0;
        int ever = 0;
        for (News n : items) {
            kept += n.feed == feed && n.kept ? 1 : 0;
            ever += n.feed == feed ? 1 : 0;
        }
        int faults = Collections.frequency(entries(f), null);
        return new int[] {f.form, f.gap, f.due, f.fetches, kept, ever, f.faults, entries(f).size() - faults, faults}[what];
    }

    public String fetched(int nth) {
        argument(nth >= 0);
        return nth < Math.min(6, fetches.size()) ? fetches.get(nth) : "";
    }

    public int ofItem(int item, int what) {
        News n = itemOf(item);
        argument(in(what, 0, 10));
        TreeSet<Integer> story = storyOf(item, stories());
        return new int[] {n.feed, n.name, n.time, n.text.split(" ").length, n.changed, n.change, n.cameAt,
            story.first(), story.size(), score(n, stories()), readers(item)}[what];
    }

    public String text(int item) {
        return itemOf(item).text;
    }

    public int find(int feed, int name) {
        feedOf(feed);
        argument(in(name, 0, 196));
        for (News n : items) {
            if (n.feed == feed && n.name == name) {
                return n.kept ? n.number : -9;
            }
        }
        return -1;
    }

    public String story(int item) {
        itemOf(item);
        return joined(storyOf(item, stories()));
    }

    public int apart(int one, int other, boolean isApart) {
        itemOf(one);
        itemOf(other);
        argument(one != other);
        Set<Integer> pair = Set.of(one, other);
        int before = apart.contains(pair) ? 1 : 0;
        storiesNow = null;
        if (isApart) {
            apart.add(pair);
        } else {
            apart.remove(pair);
        }
        return before;
    }

    public int common(int item, int other) {
        itemOf(item);
        itemOf(other);
        return commonOf(item, other);
    }

    public int rule(int kind, int value, int points) {
        argument(in(kind, 0, 4) && in(value, 0, 99) && in(points, -9, 9));
        state(rules.size() < 6);
        rules.add(new Law(kind, value, points));
        return rules.size() - 1;
    }

    public int unrule(int rule) {
        index(in(rule, 0, rules.size() - 1));
        rules.remove(rule);
        return rules.size();
    }

    public String reasons(int item) {
        News n = itemOf(item);
        List<TreeSet<Integer>> stories = stories();
        List<String> list = new ArrayList<>();
        for (int i = 0; i < rules.size(); i++) {
            int p = rules.get(i).points;
            if (fits(rules.get(i), n, stories)) {
                list.add(i + (p < 0 ? "" + p : "+" + p));
            }
        }
        return String.join(" ", list);
    }

    public String list(int desk, int view) {
        Table t = deskOf(desk);
        argument(in(view, 0, 9));
        return joined(ordered(t, view));
    }

    public int ask(int question, int kind, int value, boolean isNot) {
        index(in(question, 0, 2));
        argument(in(kind, 0, 7) && in(value, 0, 99));
        state(questions.get(question).size() < 3);
        questions.get(question).add(new Condition(kind, value, isNot));
        return questions.get(question).size();
    }

    public int unask(int question) {
        index(in(question, 0, 2));
        int n = questions.get(question).size();
        questions.get(question).clear();
        return n;
    }

    public String search(int a, int b) {
        argument(in(a, 0, 63) && in(b, -1, 63));
        List<Integer> list = new ArrayList<>();
        for (News n : kept()) {
            if (hasWord(n, a) && (b < 0 || hasWord(n, b))) {
                list.add(n.number);
            }
        }
        return joined(list);
    }

    public int hours(int feed, int hour) {
        index(in(feed, -1, feeds.size() - 1));
        argument(in(hour, 0, 23));
        int found = 0;
        for (News n : kept()) {
            found += (feed < 0 || n.feed == feed) && n.time / 60 % 24 == hour ? 1 : 0;
        }
        return found;
    }

    public int mark(int desk, int item, int what, int value) {
        Table t = deskOf(desk);
        itemOf(item);
        argument(in(what, 0, 3) && in(value, 0, new int[] {1, 1, 4, 9}[what]));
        int before = t.mark(item, what).value;
        List<Act> acts = new ArrayList<>();
        t.act(item, what, value, acts);
        t.keep(acts);
        return before;
    }

    public String open(int desk, int item) {
        mark(desk, item, 0, 1);
        shown.remove((Integer) item);
        shown.add(item);
        if (shown.size() > 4) {
            shown.remove(0);
        }
        News n = items.get(item);
        return n.feed + ":" + n.name + "@" + n.time + " " + n.text;
    }

    public int upTo(int desk, int item) {
        Table t = deskOf(desk);
        itemOf(item);
        List<Integer> list = ordered(t, 0);
        List<Act> acts = new ArrayList<>();
        for (int i : list.subList(0, list.indexOf(item) + 1)) {
            t.act(i, 0, 1, acts);
        }
        t.keep(acts);
        return acts.size();
    }

    public int undo(int desk) {
        Table t = deskOf(desk);
        state(!t.steps.isEmpty());
        int made = 0;
        for (Act a : t.steps.remove(t.steps.size() - 1)) {
            if (items.get(a.item).kept && t.mark(a.item, a.what).stamp == a.stamp) {
                made += t.act(a.item, a.what, a.before, null) ? 1 : 0;
            }
        }
        return made;
    }

    public int marked(int desk, int item, int what, boolean isStamp) {
        Table t = deskOf(desk);
        itemOf(item);
        argument(in(what, 0, 3));
        return isStamp ? t.mark(item, what).stamp : t.mark(item, what).value;
    }

    public int send(int from, int to) {
        Table s = deskOf(from);
        deskOf(to);
        argument(from != to);
        state(way.size() < 8);
        Map<String, Value> marks = new LinkedHashMap<>();
        for (Map.Entry<String, Value> e : s.marks.entrySet()) {
            int stamp = e.getValue().stamp;
            if (stamp / 3 > s.known[to][stamp % 3]) {
                marks.put(e.getKey(), e.getValue());
            }
        }
        way.add(new Mail(from, to, s.row.clone(), marks));
        return marks.size();
    }

    public int arrive(int place, boolean isStaying) {
        index(in(place, 0, way.size() - 1));
        Mail m = isStaying ? way.get(place) : way.remove(place);
        Table t = desks.get(m.to);
        int taken = 0;
        for (Map.Entry<String, Value> e : m.marks.entrySet()) {
            int item = Integer.parseInt(e.getKey().split("/")[0]);
            int what = Integer.parseInt(e.getKey().split("/")[1]);
            if (items.get(item).kept && e.getValue().stamp > t.mark(item, what).stamp) {
                t.marks.put(e.getKey(), e.getValue());
                taken++;
            }
        }
        for (int d = 0; d < 3; d++) {
            t.row[d] = Math.max(t.row[d], m.row[d]);
            t.known[m.from][d] = Math.max(t.known[m.from][d], m.row[d]);
            t.count = Math.max(t.count, m.row[d]);
        }
        return taken;
    }

    public int lose(int place) {
        index(in(place, 0, way.size() - 1));
        way.remove(place);
        return way.size();
    }

    public int ofLetter(int place, int what) {
        index(in(place, 0, way.size() - 1));
        argument(in(what, 0, 5));
        Mail m = way.get(place);
        return new int[] {m.from, m.to, m.marks.size(), m.row[0], m.row[1], m.row[2]}[what];
    }

    public int known(int desk, int other, int of) {
        Table t = deskOf(desk);
        deskOf(other);
        deskOf(of);
        return other == desk ? t.row[of] : t.known[other][of];
    }

    public int unlike() {
        int found = 0;
        for (News n : kept()) {
            for (int what = 0; what < 4; what++) {
                Set<Integer> values = new HashSet<>();
                for (Table t : desks) {
                    values.add(t.mark(n.number, what).value);
                }
                found += values.size() > 1 ? 1 : 0;
            }
        }
        return found;
    }

    public int ofDesk(int desk, int what) {
        Table t = deskOf(desk);
        argument(in(what, 0, 9));
        int[] marked = new int[3];
        for (News n : kept()) {
            for (int w = 0; w < 3; w++) {
                marked[w] += t.mark(n.number, w).value > 0 ? 1 : 0;
            }
        }
        int listed = 0;
        for (Paper p : t.papers) {
            listed += p.items.size();
        }
        return new int[] {t.count, marked[0], marked[1], marked[2], t.steps.size(), t.papers.size(), listed, t.zone,
            t.morning, toMorning(t)}[what];
    }

    public int zone(int desk, int zone, int morning) {
        Table t = deskOf(desk);
        argument(in(zone, -720, 840) && in(morning, 0, 1439));
        t.zone = zone;
        t.morning = morning;
        return toMorning(t);
    }

    public int bar(int score) {
        argument(in(score, -54, 54));
        int before = bar;
        bar = score;
        return before;
    }

    public String morning(int desk, int nth) {
        Table t = deskOf(desk);
        argument(nth >= 0);
        if (nth >= Math.min(3, t.papers.size())) {
            return "";
        }
        String s = t.papers.get(nth).clock + ":";
        for (int i : t.papers.get(nth).items) {
            s += " " + i;
        }
        return s;
    }

    TreeSet<Integer> going(int minutes) {
        TreeSet<Integer> going = new TreeSet<>();
        for (TreeSet<Integer> story : stories()) {
            boolean isOld = true;
            for (int i : story) {
                isOld &= readers(i) == 3 && clock - items.get(i).time >= minutes;
                for (Table t : desks) {
                    isOld &= t.mark(i, 1).value == 0;
                }
            }
            if (isOld) {
                going.addAll(story);
            }
        }
        return going;
    }

    public int forget(int minutes) {
        argument(in(minutes, 0, 9999));
        TreeSet<Integer> going = going(minutes);
        storiesNow = null;
        for (int i : going) {
            items.get(i).kept = false;
            shown.remove((Integer) i);
            apart.removeIf(p -> p.contains(i));
            for (Table t : desks) {
                t.marks.keySet().removeIf(k -> k.startsWith(i + "/"));
            }
        }
        return going.size();
    }

    public String would(int minutes) {
        argument(in(minutes, 0, 9999));
        return joined(going(minutes));
    }

    public String shown() {
        return joined(shown);
    }

    public int knock() {
        return ++knocks;
    }

    public int house(int what) {
        argument(in(what, 0, 11));
        int conditions = 0;
        for (List<Condition> q : questions) {
            conditions += q.size();
        }
        return new int[] {feeds.size(), kept().size(), items.size(), clock, rules.size(), way.size(), typed.length(),
            stories().size(), apart.size(), bar, conditions, knocks}[what];
    }

    /** The document leaves no way to an unsound state. */
    public boolean isSound() {
        return true;
    }

    public long digest() {
        List<Long> all = new ArrayList<>();
        for (int w = 0; w < 12; w++) {
            all.add((long) house(w));
        }
        for (int f = 0; f < feeds.size(); f++) {
            for (int w = 0; w < 9; w++) {
                all.add((long) ofFeed(f, w));
            }
        }
        all.add((long) fetched(0).length());
        for (News n : kept()) {
            all.add((long) n.number);
            for (int w = 0; w < 11; w++) {
                all.add((long) ofItem(n.number, w));
            }
            all.add((long) n.text.length());
            all.add((long) reasons(n.number).length());
        }
        for (Table t : desks) {
            for (int w = 0; w < 10; w++) {
                all.add((long) ofDesk(t.number, w));
            }
            for (int o = 0; o < 9; o++) {
                all.add((long) known(t.number, o / 3, o % 3));
            }
            for (int v = 0; v < 10; v++) {
                all.add((long) list(t.number, v).length());
            }
            all.add((long) morning(t.number, 0).length());
            for (News n : kept()) {
                for (int w = 0; w < 4; w++) {
                    all.add((long) t.mark(n.number, w).value);
                    all.add((long) t.mark(n.number, w).stamp);
                }
            }
        }
        for (int l = 0; l < way.size(); l++) {
            for (int w = 0; w < 6; w++) {
                all.add((long) ofLetter(l, w));
            }
        }
        all.add((long) unlike());
        all.add((long) shown().length());
        all.add((long) would(0).length());
        all.add(1L);
        long d = 7310;
        for (long v : all) {
            d = d * 31 + v;
        }
        return d;
    }
}
