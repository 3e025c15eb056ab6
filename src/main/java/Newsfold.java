import java.util.Arrays;

/**
 * Feeds that are read on three desks of one reader. What each call does is told by the document
 * (DOC.md); words in capitals are the document's.
 */
public final class Newsfold {
    private static final int NONE = -1;
    private static final int NO_ROOM = -4;
    private static final int GONE = -9;
    private static final int FIRST_BAD_PIECE = -100;

    private static final String SIGNS = "abcdefgh 0123456789;,<>/:";
    private static final int TAKE_AWAY = 25;
    private static final int EMPTY = 26;
    private static final int MOST_TYPED = 120;
    private static final int MOST_PAGE = 200;
    private static final int WORDS = 64;
    private static final int LETTERS = 8;
    private static final int MOST_WORDS = 5;
    private static final int MOST_TIME = 9999;
    private static final int MOST_NAME = 99;
    private static final int NAMELESS = 100;
    private static final int NAME_SPAN = 97;

    private static final int MOST_FEEDS = 5;
    private static final int FIRST_GAP = 60;
    private static final int LEAST_GAP = 15;
    private static final int MOST_GAP = 960;
    private static final int MOST_IDLE_GAP = 480;
    private static final int MOST_MINUTES = 600;
    private static final int MOST_CLOCK = 20000;
    private static final int MOST_FETCHES = 6;
    private static final int FETCH_FACTS = 5;
    private static final String BEHIND_FETCH_FACTS = "@:+!";

    private static final int MOST_ITEMS = 40;
    private static final int RARE = 3;
    private static final int AKIN_WORDS = 2;
    private static final int AKIN_MINUTES = 720;

    private static final int DESKS = 3;
    private static final int MARKS = 4;
    private static final int READ = 0;
    private static final int STAR = 1;
    private static final int FOLDER = 2;
    private static final int NOTE = 3;
    private static final int[] MOST_VALUE = {1, 1, 4, 9};
    private static final int PLACES = MOST_ITEMS * MARKS;
    private static final int MOST_STEPS = 5;
    private static final int MOST_LETTERS = 8;

    private static final int MOST_RULES = 6;
    private static final int MOST_POINTS = 9;
    private static final int MOST_OF_RULE = 99;
    private static final int QUESTIONS = 3;
    private static final int CONDITIONS = 3;
    private static final int VIEWS = 10;
    private static final int FIRST_FOLDER_VIEW = 3;
    private static final int FIRST_QUESTION_VIEW = 7;

    private static final int DAY = 1440;
    private static final int HOUR = 60;
    private static final int HOURS = 24;
    private static final int LEAST_ZONE = -720;
    private static final int MOST_ZONE = 840;
    private static final int FIRST_MORNING = 480;
    private static final int MOST_BAR = 54;
    private static final int MOST_DIGESTS = 3;
    private static final int MOST_SHOWN = 4;

    private static final int FEED_FACTS = 9;
    private static final int ITEM_FACTS = 11;
    private static final int DESK_FACTS = 10;
    private static final int LETTER_FACTS = 6;
    private static final int HOUSE_FACTS = 12;
    private static final long FIRST_CHECKSUM = 7310L;

    private final StringBuilder typed = new StringBuilder();
    private final Feed[] feeds = new Feed[MOST_FEEDS];
    private int feedCount = 0;
    private final PageReader reader = new PageReader();
    private final int[][] fetchLog = new int[MOST_FETCHES][FETCH_FACTS];
    private int fetchesMade = 0;
    private final Items items = new Items();
    private final Stories stories = new Stories();
    private final Rule[] rules = new Rule[MOST_RULES];
    private int ruleCount = 0;
    private final Question[] questions = new Question[QUESTIONS];
    private final Numbers order = new Numbers();
    private final Numbers answer = new Numbers();
    private final Desk[] desks = new Desk[DESKS];
    private final Letter[] way = new Letter[MOST_LETTERS];
    private int wayCount = 0;
    private final Numbers shown = new Numbers();
    private int clock = 0;
    private int bar = 0;
    private int knocks = 0;

    public Newsfold() {
        for (int i = 0; i < feeds.length; i++) {
            feeds[i] = new Feed();
        }
        for (int i = 0; i < rules.length; i++) {
            rules[i] = new Rule();
        }
        for (int i = 0; i < questions.length; i++) {
            questions[i] = new Question();
        }
        for (int i = 0; i < desks.length; i++) {
            desks[i] = new Desk(i);
        }
        for (int i = 0; i < way.length; i++) {
            way[i] = new Letter();
        }
    }

    // ---- texts and feeds

    public int say(int a, int b, int c, int d, int e, int f) throws IllegalArgumentException, IllegalStateException {
        checkTyping(a);
        checkTyping(b);
        checkTyping(c);
        checkTyping(d);
        checkTyping(e);
        checkTyping(f);
        int signs = signsWith(typed.length(), a);
        signs = signsWith(signs, b);
        signs = signsWith(signs, c);
        signs = signsWith(signs, d);
        signs = signsWith(signs, e);
        signsWith(signs, f);
        type(a);
        type(b);
        type(c);
        type(d);
        type(e);
        type(f);
        return typed.length();
    }

    public String typed() {
        return typed.toString();
    }

    public int feed(int form) throws IllegalArgumentException, IllegalStateException {
        checkRange(form, 0, 1);
        if (feedCount >= feeds.length) {
            throw new IllegalStateException();
        }
        addFeed(form, FIRST_GAP);
        return feedCount - 1;
    }

    public int bring() {
        int pieces = 0;
        reader.start(typed, 0);
        for (int i = 0; i <= MOST_TYPED && reader.nextPiece(); i++) {
            if (!reader.isFeedPiece()) {
                return FIRST_BAD_PIECE - pieces;
            }
            pieces++;
        }
        if (feedCount + pieces > feeds.length) {
            return NO_ROOM;
        }
        reader.start(typed, 0);
        for (int i = 0; i < pieces && reader.nextPiece(); i++) {
            if (reader.isFeedPiece()) {
                addFeed(reader.feedForm, reader.feedGap);
            }
        }
        return pieces;
    }

    public String out() {
        StringBuilder line = new StringBuilder();
        for (int i = 0; i < feedCount; i++) {
            if (i > 0) {
                line.append(';');
            }
            line.append(feeds[i].form).append(':').append(feeds[i].gap);
        }
        return line.toString();
    }

    public int put(int feed) throws IndexOutOfBoundsException {
        Feed to = feedAt(feed);
        int before = to.page.length();
        to.page.setLength(0);
        for (int i = 0; i < typed.length(); i++) {
            to.page.append(typed.charAt(i));
        }
        return before;
    }

    public int write(int feed, int name, int time, int a, int b, int c) throws IndexOutOfBoundsException, IllegalArgumentException {
        Feed to = feedAt(feed);
        checkRange(name, NONE, MOST_NAME);
        checkRange(time, 0, MOST_TIME);
        checkRange(a, 0, WORDS - 1);
        checkRange(b, NONE, WORDS - 1);
        checkRange(c, NONE, WORDS - 1);
        int before = to.page.length();
        to.appendEntry(name, time, a, b, c);
        if (to.page.length() > MOST_PAGE) {
            to.page.setLength(before);
            return NO_ROOM;
        }
        return to.page.length();
    }

    public int poke(int feed, int place, int code) throws IndexOutOfBoundsException, IllegalArgumentException {
        Feed at = feedAt(feed);
        if (place < 0 || place >= at.page.length()) {
            throw new IndexOutOfBoundsException();
        }
        checkRange(code, 0, SIGNS.length() - 1);
        int before = SIGNS.indexOf(at.page.charAt(place));
        at.page.setCharAt(place, SIGNS.charAt(code));
        return before;
    }

    public String page(int feed) throws IndexOutOfBoundsException {
        return feedAt(feed).page.toString();
    }

    public int fetch(int feed) throws IndexOutOfBoundsException {
        feedAt(feed);
        return fetchNow(feed);
    }

    public int tick(int minutes) throws IllegalArgumentException, IllegalStateException {
        checkRange(minutes, 1, MOST_MINUTES);
        if (clock + minutes > MOST_CLOCK) {
            throw new IllegalStateException();
        }
        int before = fetchesMade;
        for (int i = 0; i < minutes; i++) {
            passMinute();
        }
        return fetchesMade - before;
    }

    public int ofFeed(int feed, int what) throws IndexOutOfBoundsException, IllegalArgumentException {
        feedAt(feed);
        checkRange(what, 0, FEED_FACTS - 1);
        return feedFact(feed, what);
    }

    public String fetched(int nth) throws IllegalArgumentException {
        checkNotBelow(nth);
        if (nth >= fetchesKept()) {
            return "";
        }
        StringBuilder line = new StringBuilder();
        int[] facts = fetchLog[(fetchesMade - 1 - nth) % MOST_FETCHES];
        for (int i = 0; i < FETCH_FACTS; i++) {
            if (i > 0) {
                line.append(BEHIND_FETCH_FACTS.charAt(i - 1));
            }
            line.append(facts[i]);
        }
        return line.toString();
    }

    // ---- items and stories

    public int ofItem(int item, int what) throws IndexOutOfBoundsException, IllegalArgumentException {
        itemAt(item);
        checkRange(what, 0, ITEM_FACTS - 1);
        return itemFact(item, what);
    }

    public String text(int item) throws IndexOutOfBoundsException {
        return itemAt(item).text;
    }

    public int find(int feed, int name) throws IndexOutOfBoundsException, IllegalArgumentException {
        feedAt(feed);
        checkRange(name, 0, NAMELESS + NAME_SPAN - 1);
        int item = items.numberOf(feed, name);
        if (item == NONE) {
            return NONE;
        }
        return items.isKept(item) ? item : GONE;
    }

    public String story(int item) throws IndexOutOfBoundsException {
        itemAt(item);
        answer.empty();
        for (int i = 0; i < MOST_ITEMS; i++) {
            if (items.isKept(i) && stories.number[i] == stories.number[item]) {
                answer.add(i);
            }
        }
        return answer.joined();
    }

    public int apart(int one, int other, boolean isApart) throws IndexOutOfBoundsException, IllegalArgumentException {
        itemAt(one);
        itemAt(other);
        if (one == other) {
            throw new IllegalArgumentException();
        }
        boolean before = items.areApart(one, other);
        if (before != isApart) {
            items.hold(one, other, isApart);
            stories.join(items);
        }
        return before ? 1 : 0;
    }

    public int common(int item, int other) throws IndexOutOfBoundsException {
        itemAt(item);
        itemAt(other);
        return stories.rareInBoth(item, other);
    }

    // ---- rules, lists, questions

    public int rule(int kind, int value, int points) throws IllegalArgumentException, IllegalStateException {
        checkRange(kind, 0, 4);
        checkRange(value, 0, MOST_OF_RULE);
        checkRange(points, -MOST_POINTS, MOST_POINTS);
        if (ruleCount >= rules.length) {
            throw new IllegalStateException();
        }
        Rule last = rules[ruleCount];
        last.kind = kind;
        last.value = value;
        last.points = points;
        ruleCount++;
        return ruleCount - 1;
    }

    public int unrule(int rule) throws IndexOutOfBoundsException {
        if (rule < 0 || rule >= ruleCount) {
            throw new IndexOutOfBoundsException();
        }
        Rule gone = rules[rule];
        for (int i = rule; i + 1 < ruleCount; i++) {
            rules[i] = rules[i + 1];
        }
        ruleCount--;
        rules[ruleCount] = gone;
        return ruleCount;
    }

    public String reasons(int item) throws IndexOutOfBoundsException {
        itemAt(item);
        StringBuilder line = new StringBuilder();
        for (int i = 0; i < ruleCount; i++) {
            if (doesFit(rules[i], item)) {
                if (line.length() > 0) {
                    line.append(' ');
                }
                line.append(i).append(rules[i].points < 0 ? '-' : '+').append(Math.abs(rules[i].points));
            }
        }
        return line.toString();
    }

    public String list(int desk, int view) throws IndexOutOfBoundsException, IllegalArgumentException {
        Desk at = deskAt(desk);
        checkRange(view, 0, VIEWS - 1);
        rank();
        fillList(at, view);
        return answer.joined();
    }

    public int ask(int question, int kind, int value, boolean isNot) throws IndexOutOfBoundsException, IllegalArgumentException, IllegalStateException {
        Question to = questionAt(question);
        checkRange(kind, 0, 7);
        checkRange(value, 0, MOST_OF_RULE);
        if (to.size >= CONDITIONS) {
            throw new IllegalStateException();
        }
        to.kind[to.size] = kind;
        to.value[to.size] = value;
        to.isNot[to.size] = isNot;
        to.size++;
        return to.size;
    }

    public int unask(int question) throws IndexOutOfBoundsException {
        Question of = questionAt(question);
        int before = of.size;
        of.size = 0;
        return before;
    }

    public String search(int a, int b) throws IllegalArgumentException {
        checkRange(a, 0, WORDS - 1);
        checkRange(b, NONE, WORDS - 1);
        answer.empty();
        for (int i = 0; i < MOST_ITEMS; i++) {
            if (items.isKept(i) && items.all[i].hasWord(a) && (b == NONE || items.all[i].hasWord(b))) {
                answer.add(i);
            }
        }
        return answer.joined();
    }

    public int hours(int feed, int hour) throws IndexOutOfBoundsException, IllegalArgumentException {
        if (feed != NONE) {
            feedAt(feed);
        }
        checkRange(hour, 0, HOURS - 1);
        int found = 0;
        for (int i = 0; i < MOST_ITEMS; i++) {
            Item item = items.all[i];
            if (item.isKept && (feed == NONE || item.feed == feed) && item.time / HOUR % HOURS == hour) {
                found++;
            }
        }
        return found;
    }

    // ---- desks

    public int mark(int desk, int item, int what, int value) throws IndexOutOfBoundsException, IllegalArgumentException {
        Desk at = deskAt(desk);
        itemAt(item);
        checkRange(what, 0, MARKS - 1);
        checkRange(value, 0, MOST_VALUE[what]);
        int place = item * MARKS + what;
        int before = at.value[place];
        if (before != value) {
            at.change(place, value, at.nextStep());
        }
        return before;
    }

    public String open(int desk, int item) throws IndexOutOfBoundsException {
        Desk at = deskAt(desk);
        Item opened = itemAt(item);
        if (!at.isRead(item)) {
            at.change(item * MARKS + READ, 1, at.nextStep());
        }
        shown.drop(item);
        if (shown.size >= MOST_SHOWN) {
            shown.drop(shown.at(0));
        }
        shown.add(item);
        StringBuilder line = new StringBuilder();
        line.append(opened.feed).append(':').append(opened.name).append('@').append(opened.time);
        return line.append(' ').append(opened.text).toString();
    }

    public int upTo(int desk, int item) throws IndexOutOfBoundsException {
        Desk at = deskAt(desk);
        itemAt(item);
        rank();
        answer.empty();
        for (int i = 0; i < order.size; i++) {
            if (!at.isRead(order.at(i))) {
                answer.add(order.at(i));
            }
            if (order.at(i) == item) {
                break;
            }
        }
        if (answer.size > 0) {
            Step step = at.nextStep();
            for (int i = 0; i < answer.size; i++) {
                at.change(answer.at(i) * MARKS + READ, 1, step);
            }
        }
        return answer.size;
    }

    public int undo(int desk) throws IndexOutOfBoundsException, IllegalStateException {
        Desk at = deskAt(desk);
        if (at.stepsKept <= 0) {
            throw new IllegalStateException();
        }
        return at.takeBackStep(items);
    }

    public int marked(int desk, int item, int what, boolean isStamp) throws IndexOutOfBoundsException, IllegalArgumentException {
        Desk at = deskAt(desk);
        itemAt(item);
        checkRange(what, 0, MARKS - 1);
        int place = item * MARKS + what;
        return isStamp ? at.stamp[place] : at.value[place];
    }

    public int send(int from, int to) throws IndexOutOfBoundsException, IllegalArgumentException, IllegalStateException {
        Desk sender = deskAt(from);
        deskAt(to);
        if (from == to) {
            throw new IllegalArgumentException();
        }
        if (wayCount >= way.length) {
            throw new IllegalStateException();
        }
        Letter letter = way[wayCount];
        wayCount++;
        letter.fill(sender, to);
        return letter.size;
    }

    public int arrive(int place, boolean isStaying) throws IndexOutOfBoundsException {
        Letter letter = letterAt(place);
        int taken = deskAt(letter.to).take(letter, items);
        if (!isStaying) {
            takeOffWay(place);
        }
        return taken;
    }

    public int lose(int place) throws IndexOutOfBoundsException {
        letterAt(place);
        takeOffWay(place);
        return wayCount;
    }

    public int ofLetter(int place, int what) throws IndexOutOfBoundsException, IllegalArgumentException {
        Letter letter = letterAt(place);
        checkRange(what, 0, LETTER_FACTS - 1);
        return letter.fact(what);
    }

    public int known(int desk, int other, int of) throws IndexOutOfBoundsException {
        deskAt(desk);
        deskAt(other);
        deskAt(of);
        return knownRow(desk, other, of);
    }

    public int unlike() {
        return countUnlike();
    }

    public int ofDesk(int desk, int what) throws IndexOutOfBoundsException, IllegalArgumentException {
        Desk at = deskAt(desk);
        checkRange(what, 0, DESK_FACTS - 1);
        return deskFact(at, what);
    }

    // ---- mornings and forgetting

    public int zone(int desk, int zone, int morning) throws IndexOutOfBoundsException, IllegalArgumentException {
        Desk at = deskAt(desk);
        checkRange(zone, LEAST_ZONE, MOST_ZONE);
        checkRange(morning, 0, DAY - 1);
        at.zone = zone;
        at.morning = morning;
        return minutesToMorning(at);
    }

    public int bar(int score) throws IllegalArgumentException {
        checkRange(score, -MOST_BAR, MOST_BAR);
        int before = bar;
        bar = score;
        return before;
    }

    public String morning(int desk, int nth) throws IndexOutOfBoundsException, IllegalArgumentException {
        Desk at = deskAt(desk);
        checkNotBelow(nth);
        if (nth >= at.digestsKept()) {
            return "";
        }
        StringBuilder line = new StringBuilder();
        int which = (at.digestsMade - 1 - nth) % MOST_DIGESTS;
        Numbers held = at.digests[which];
        line.append(at.digestClock[which]).append(':');
        for (int i = 0; i < held.size; i++) {
            line.append(' ').append(held.at(i));
        }
        return line.toString();
    }

    public int forget(int minutes) throws IllegalArgumentException {
        checkRange(minutes, 0, MOST_TIME);
        fillGoing(minutes);
        for (int i = 0; i < answer.size; i++) {
            int item = answer.at(i);
            items.dismiss(item);
            shown.drop(item);
            for (int d = 0; d < DESKS; d++) {
                desks[d].wipe(item);
            }
        }
        if (answer.size > 0) {
            stories.learn(items);
            stories.join(items);
        }
        return answer.size;
    }

    public String would(int minutes) throws IllegalArgumentException {
        checkRange(minutes, 0, MOST_TIME);
        fillGoing(minutes);
        return answer.joined();
    }

    public String shown() {
        return shown.joined();
    }

    // ---- the house

    public int knock() {
        knocks++;
        return knocks;
    }

    public int house(int what) throws IllegalArgumentException {
        checkRange(what, 0, HOUSE_FACTS - 1);
        return houseFact(what);
    }

    public boolean isSound() {
        return isAllSound();
    }

    public long digest() {
        long sum = FIRST_CHECKSUM;
        for (int what = 0; what < HOUSE_FACTS; what++) {
            sum = mixed(sum, houseFact(what));
        }
        for (int f = 0; f < feedCount; f++) {
            for (int what = 0; what < FEED_FACTS; what++) {
                sum = mixed(sum, feedFact(f, what));
            }
        }
        sum = mixed(sum, signsOfLastFetch());
        sum = mixedWithItems(sum);
        rank();
        for (int d = 0; d < DESKS; d++) {
            sum = mixedWithDesk(sum, d);
        }
        for (int i = 0; i < wayCount; i++) {
            for (int what = 0; what < LETTER_FACTS; what++) {
                sum = mixed(sum, way[i].fact(what));
            }
        }
        sum = mixed(sum, countUnlike());
        sum = mixed(sum, shown.signs());
        fillGoing(0);
        sum = mixed(sum, answer.signs());
        return mixed(sum, isAllSound() ? 1 : 0);
    }

    // ---- what is looked at before a call does anything

    private static void checkRange(int n, int least, int most) {
        if (n < least || n > most) {
            throw new IllegalArgumentException();
        }
    }

    private static void checkNotBelow(int nth) {
        if (nth < 0) {
            throw new IllegalArgumentException();
        }
    }

    private static void checkTyping(int code) {
        checkRange(code, NONE, EMPTY);
    }

    private Feed feedAt(int feed) {
        if (feed < 0 || feed >= feedCount) {
            throw new IndexOutOfBoundsException();
        }
        return feeds[feed];
    }

    private Item itemAt(int item) {
        if (!items.isKept(item)) {
            throw new IndexOutOfBoundsException();
        }
        return items.all[item];
    }

    private Desk deskAt(int desk) {
        if (desk < 0 || desk >= desks.length) {
            throw new IndexOutOfBoundsException();
        }
        return desks[desk];
    }

    private Question questionAt(int question) {
        if (question < 0 || question >= questions.length) {
            throw new IndexOutOfBoundsException();
        }
        return questions[question];
    }

    private Letter letterAt(int place) {
        if (place < 0 || place >= wayCount) {
            throw new IndexOutOfBoundsException();
        }
        return way[place];
    }

    // ---- typing, fetching, minutes

    private static int signsWith(int signs, int code) {
        if (code == NONE) {
            return signs;
        }
        if (code == EMPTY) {
            return 0;
        }
        if (code == TAKE_AWAY) {
            return Math.max(0, signs - 1);
        }
        if (signs >= MOST_TYPED) {
            throw new IllegalStateException();
        }
        return signs + 1;
    }

    private void type(int code) {
        if (code == EMPTY) {
            typed.setLength(0);
        } else if (code == TAKE_AWAY) {
            typed.setLength(Math.max(0, typed.length() - 1));
        } else if (code >= 0 && code < SIGNS.length()) {
            typed.append(SIGNS.charAt(code));
        }
    }

    private void addFeed(int form, int gap) {
        if (feedCount < feeds.length) {
            Feed feed = feeds[feedCount];
            feed.form = form;
            feed.gap = gap;
            feed.due = clock;
            feedCount++;
        }
    }

    private int fetchNow(int number) {
        Feed feed = feeds[number];
        int entries = 0;
        int came = 0;
        int changed = 0;
        int faults = 0;
        reader.start(feed.page, feed.form);
        for (int i = 0; i <= MOST_PAGE; i++) {
            int found = reader.next();
            if (found == PageReader.OVER) {
                break;
            }
            int taken = Items.REFUSED;
            if (found == PageReader.ENTRY) {
                entries++;
                taken = items.take(number, reader, clock);
            }
            came += taken == Items.CAME ? 1 : 0;
            changed += taken == Items.CHANGED ? 1 : 0;
            faults += taken == Items.REFUSED ? 1 : 0;
        }
        if (came + changed > 0) {
            stories.learn(items);
            stories.join(items);
        }
        feed.settle(came + changed > 0, faults > 0 && entries == 0, clock);
        feed.faults += faults;
        logFetch(number, came, changed, faults);
        return came + changed;
    }

    private void logFetch(int feed, int came, int changed, int faults) {
        int[] facts = fetchLog[fetchesMade % MOST_FETCHES];
        facts[0] = feed;
        facts[1] = clock;
        facts[2] = came;
        facts[3] = changed;
        facts[4] = faults;
        fetchesMade++;
    }

    private int fetchesKept() {
        return Math.min(fetchesMade, MOST_FETCHES);
    }

    private int signsOfLastFetch() {
        if (fetchesMade <= 0) {
            return 0;
        }
        int signs = BEHIND_FETCH_FACTS.length();
        int[] facts = fetchLog[(fetchesMade - 1) % MOST_FETCHES];
        for (int i = 0; i < FETCH_FACTS; i++) {
            signs += Numbers.digits(facts[i]);
        }
        return signs;
    }

    private void passMinute() {
        clock++;
        for (int i = 0; i < feedCount; i++) {
            int due = firstDue();
            if (due == NONE) {
                break;
            }
            fetchNow(due);
        }
        for (int d = 0; d < DESKS; d++) {
            if (minutesToMorning(desks[d]) == DAY) {
                makeDigest(desks[d]);
            }
        }
    }

    private int firstDue() {
        int first = NONE;
        for (int i = 0; i < feedCount; i++) {
            if (feeds[i].due <= clock && (first == NONE || feeds[i].due < feeds[first].due)) {
                first = i;
            }
        }
        return first;
    }

    /** From 1 to DAY: where it is morning now, the next one is a day ahead. */
    private int minutesToMorning(Desk desk) {
        return DAY - Math.floorMod(clock + desk.zone - desk.morning, DAY);
    }

    private void makeDigest(Desk desk) {
        rank();
        Numbers fresh = desk.nextDigest(clock);
        for (int i = 0; i < order.size; i++) {
            int item = order.at(i);
            if (!desk.isRead(item) && items.all[item].score >= bar && desk.isUnlisted(item)) {
                desk.noteListed(item);
                fresh.add(item);
            }
        }
    }

    private int feedFact(int number, int what) {
        Feed feed = feeds[number];
        switch (what) {
            case 0: return feed.form;
            case 1: return feed.gap;
            case 2: return feed.due;
            case 3: return feed.fetches;
            case 4: return items.countOf(number, true);
            case 5: return items.countOf(number, false);
            case 6: return feed.faults;
            case 7: return countOnPage(feed, PageReader.ENTRY);
            default: return countOnPage(feed, PageReader.FAULT);
        }
    }

    private int countOnPage(Feed feed, int what) {
        int count = 0;
        reader.start(feed.page, feed.form);
        for (int i = 0; i <= MOST_PAGE; i++) {
            int found = reader.next();
            if (found == PageReader.OVER) {
                break;
            }
            count += found == what ? 1 : 0;
        }
        return count;
    }

    // ---- scores, order, views

    private int itemFact(int number, int what) {
        Item item = items.all[number];
        switch (what) {
            case 0: return item.feed;
            case 1: return item.name;
            case 2: return item.time;
            case 3: return item.words;
            case 4: return item.changed;
            case 5: return item.change;
            case 6: return item.cameAt;
            case 7: return stories.number[number];
            case 8: return stories.size[number];
            case 9: return scoreOf(number);
            default: return readersOf(number);
        }
    }

    private int readersOf(int item) {
        int readers = 0;
        for (int d = 0; d < DESKS; d++) {
            readers += desks[d].isRead(item) ? 1 : 0;
        }
        return readers;
    }

    private boolean doesFit(Rule rule, int number) {
        Item item = items.all[number];
        switch (rule.kind) {
            case 0: return item.hasWord(rule.value);
            case 1: return item.feed == rule.value;
            case 2: return clock - item.time >= HOUR * rule.value;
            case 3: return readersOf(number) >= rule.value;
            default: return stories.size[number] >= rule.value;
        }
    }

    private int scoreOf(int item) {
        int score = 0;
        for (int i = 0; i < ruleCount; i++) {
            if (doesFit(rules[i], item)) {
                score += rules[i].points;
            }
        }
        return score;
    }

    /** Each REASON is two digits and a sign, as RULES and POINTS stay below 10. */
    private int signsOfReasons(int item) {
        int signs = 0;
        for (int i = 0; i < ruleCount; i++) {
            if (doesFit(rules[i], item)) {
                signs += signs > 0 ? 4 : 3;
            }
        }
        return signs;
    }

    /** Puts the KEPT ITEMS into order by their SCORES as they are now, and tells each of them its own. */
    private void rank() {
        order.empty();
        for (int i = 0; i < MOST_ITEMS; i++) {
            if (items.isKept(i)) {
                items.all[i].score = scoreOf(i);
                int place = order.size;
                while (place > 0 && isAhead(i, order.at(place - 1))) {
                    place--;
                }
                order.insert(place, i);
            }
        }
    }

    private boolean isAhead(int one, int other) {
        Item first = items.all[one];
        Item second = items.all[other];
        if (first.score != second.score) {
            return first.score > second.score;
        }
        return first.time != second.time ? first.time > second.time : one < other;
    }

    /** Puts the LIST of a VIEW into answer; rank() has to be called before. */
    private void fillList(Desk desk, int view) {
        answer.empty();
        for (int i = 0; i < order.size; i++) {
            if (isInView(desk, view, order.at(i))) {
                answer.add(order.at(i));
            }
        }
    }

    private boolean isInView(Desk desk, int view, int item) {
        switch (view) {
            case 0: return true;
            case 1: return !desk.isRead(item);
            case 2: return desk.valueOf(item, STAR) == 1;
            case 3:
            case 4:
            case 5:
            case 6: return desk.valueOf(item, FOLDER) == view - FIRST_FOLDER_VIEW + 1;
            case 7:
            case 8:
            case 9: return answers(questions[view - FIRST_QUESTION_VIEW], desk, item);
            default: return false;
        }
    }

    private boolean answers(Question question, Desk desk, int item) {
        for (int i = 0; i < question.size; i++) {
            if (isSo(question.kind[i], question.value[i], desk, item) == question.isNot[i]) {
                return false;
            }
        }
        return true;
    }

    private boolean isSo(int kind, int value, Desk desk, int item) {
        switch (kind) {
            case 0: return items.all[item].hasWord(value);
            case 1: return items.all[item].feed == value;
            case 2: return desk.valueOf(item, READ) == value;
            case 3: return desk.valueOf(item, STAR) == value;
            case 4: return items.all[item].score >= value;
            case 5: return desk.valueOf(item, FOLDER) == value;
            case 6: return desk.valueOf(item, NOTE) == value;
            default: return stories.size[item] >= value;
        }
    }

    // ---- desks and letters

    private int deskFact(Desk desk, int what) {
        switch (what) {
            case 0: return desk.count;
            case 1: return desk.countMarked(READ);
            case 2: return desk.countMarked(STAR);
            case 3: return desk.countMarked(FOLDER);
            case 4: return desk.stepsKept;
            case 5: return desk.digestsMade;
            case 6: return desk.itemsListed;
            case 7: return desk.zone;
            case 8: return desk.morning;
            default: return minutesToMorning(desk);
        }
    }

    private int knownRow(int desk, int other, int of) {
        return other == desk ? desks[desk].row[of] : desks[desk].knows[other * DESKS + of];
    }

    /** The LETTER is used again behind those that are left. */
    private void takeOffWay(int place) {
        Letter off = way[place];
        for (int i = place; i + 1 < wayCount; i++) {
            way[i] = way[i + 1];
        }
        wayCount--;
        way[wayCount] = off;
    }

    private int countUnlike() {
        int count = 0;
        for (int place = 0; place < PLACES; place++) {
            int value = desks[0].value[place];
            if (items.isKept(place / MARKS) && (desks[1].value[place] != value || desks[2].value[place] != value)) {
                count++;
            }
        }
        return count;
    }

    // ---- forgetting, the house

    private boolean isOld(int item, int minutes) {
        for (int d = 0; d < DESKS; d++) {
            if (!desks[d].isRead(item) || desks[d].valueOf(item, STAR) != 0) {
                return false;
            }
        }
        return clock - items.all[item].time >= minutes;
    }

    /** Puts the ITEMS that are to be forgotten into answer. */
    private void fillGoing(int minutes) {
        long staying = 0L;
        for (int i = 0; i < MOST_ITEMS; i++) {
            if (items.isKept(i) && !isOld(i, minutes)) {
                staying |= 1L << stories.number[i];
            }
        }
        answer.empty();
        for (int i = 0; i < MOST_ITEMS; i++) {
            if (items.isKept(i) && (staying >>> stories.number[i] & 1L) == 0L) {
                answer.add(i);
            }
        }
    }

    private int houseFact(int what) {
        switch (what) {
            case 0: return feedCount;
            case 1: return items.countOf(NONE, true);
            case 2: return items.came;
            case 3: return clock;
            case 4: return ruleCount;
            case 5: return wayCount;
            case 6: return typed.length();
            case 7: return stories.countAll();
            case 8: return items.countApart();
            case 9: return bar;
            case 10: return countConditions();
            default: return knocks;
        }
    }

    private int countConditions() {
        int count = 0;
        for (int i = 0; i < QUESTIONS; i++) {
            count += questions[i].size;
        }
        return count;
    }

    // ---- the checksum: it needs how long texts are, and makes none of them

    private static long mixed(long sum, long value) {
        return sum * 31L + value;
    }

    private long mixedWithItems(long before) {
        long sum = before;
        for (int i = 0; i < MOST_ITEMS; i++) {
            if (items.isKept(i)) {
                sum = mixed(sum, i);
                for (int what = 0; what < ITEM_FACTS; what++) {
                    sum = mixed(sum, itemFact(i, what));
                }
                sum = mixed(sum, items.all[i].text.length());
                sum = mixed(sum, signsOfReasons(i));
            }
        }
        return sum;
    }

    private long mixedWithDesk(long before, int number) {
        Desk desk = desks[number];
        long sum = before;
        for (int what = 0; what < DESK_FACTS; what++) {
            sum = mixed(sum, deskFact(desk, what));
        }
        for (int other = 0; other < DESKS; other++) {
            for (int of = 0; of < DESKS; of++) {
                sum = mixed(sum, knownRow(number, other, of));
            }
        }
        for (int view = 0; view < VIEWS; view++) {
            fillList(desk, view);
            sum = mixed(sum, answer.signs());
        }
        sum = mixed(sum, desk.signsOfLastDigest());
        for (int place = 0; place < PLACES; place++) {
            if (items.isKept(place / MARKS)) {
                sum = mixed(sum, desk.value[place]);
                sum = mixed(sum, desk.stamp[place]);
            }
        }
        return sum;
    }

    // ---- whether all is sound

    private boolean isAllSound() {
        rank();
        return items.areNamesUnlike() && stories.areRight(items) && areScoresSound() && areListsSound()
            && areMarksSound() && areRowsSound() && areLikeRowsSound() && areDigestsSound()
            && isShownSound() && items.areApartKept() && areFeedsSound();
    }

    private boolean areScoresSound() {
        for (int i = 0; i < MOST_ITEMS; i++) {
            int left = items.isKept(i) ? items.all[i].score : 0;
            for (int r = 0; r < ruleCount; r++) {
                left -= items.isKept(i) && doesFit(rules[r], i) ? rules[r].points : 0;
            }
            if (left != 0) {
                return false;
            }
        }
        return true;
    }

    private boolean areListsSound() {
        for (int d = 0; d < DESKS; d++) {
            for (int view = 0; view < VIEWS; view++) {
                fillList(desks[d], view);
                if (!isListSound(desks[d], view)) {
                    return false;
                }
            }
        }
        return true;
    }

    /** Looks at answer, which is the LIST: all ITEMS of the VIEW, and each behind those ahead of it. */
    private boolean isListSound(Desk desk, int view) {
        int due = 0;
        for (int i = 0; i < MOST_ITEMS; i++) {
            due += items.isKept(i) && isInView(desk, view, i) ? 1 : 0;
        }
        for (int i = 0; i < answer.size; i++) {
            int item = answer.at(i);
            if (!items.isKept(item) || !isInView(desk, view, item)) {
                return false;
            }
            if (i > 0 && !isAhead(answer.at(i - 1), item)) {
                return false;
            }
        }
        return due == answer.size;
    }

    private boolean areMarksSound() {
        for (int d = 0; d < DESKS; d++) {
            if (!desks[d].areMarksSound()) {
                return false;
            }
        }
        return true;
    }

    private boolean areRowsSound() {
        for (int d = 0; d < DESKS; d++) {
            for (int other = 0; other < DESKS; other++) {
                for (int of = 0; of < DESKS; of++) {
                    if (knownRow(d, other, of) > desks[other].row[of]) {
                        return false;
                    }
                }
            }
        }
        return true;
    }

    private boolean areLikeRowsSound() {
        for (int d = 0; d < DESKS; d++) {
            for (int other = d + 1; other < DESKS; other++) {
                if (desks[d].hasRowOf(desks[other]) && !desks[d].hasMarksOf(desks[other])) {
                    return false;
                }
            }
        }
        return true;
    }

    private boolean areDigestsSound() {
        for (int d = 0; d < DESKS; d++) {
            if (!desks[d].areDigestsUnlike()) {
                return false;
            }
        }
        return true;
    }

    private boolean isShownSound() {
        for (int i = 0; i < shown.size; i++) {
            if (!items.isKept(shown.at(i))) {
                return false;
            }
        }
        return true;
    }

    private boolean areFeedsSound() {
        for (int i = 0; i < feedCount; i++) {
            if (feeds[i].due < clock) {
                return false;
            }
        }
        return true;
    }

    /** Numbers in a row, at most one for each ITEM. */
    private static final class Numbers {
        final int[] row = new int[MOST_ITEMS];
        int size = 0;

        void empty() {
            size = 0;
        }

        int at(int place) {
            return place >= 0 && place < size ? row[place] : NONE;
        }

        void add(int n) {
            insert(size, n);
        }

        void insert(int place, int n) {
            if (place >= 0 && place <= size && size < row.length) {
                for (int i = size; i > place; i--) {
                    row[i] = row[i - 1];
                }
                row[place] = n;
                size++;
            }
        }

        /** Takes a number out of the row, wherever it stands. */
        void drop(int n) {
            int left = 0;
            for (int i = 0; i < size; i++) {
                if (row[i] != n) {
                    row[left] = row[i];
                    left++;
                }
            }
            size = left;
        }

        String joined() {
            StringBuilder line = new StringBuilder();
            for (int i = 0; i < size; i++) {
                if (i > 0) {
                    line.append(' ');
                }
                line.append(row[i]);
            }
            return line.toString();
        }

        /** How many signs joined() has. */
        int signs() {
            int signs = Math.max(0, size - 1);
            for (int i = 0; i < size; i++) {
                signs += digits(row[i]);
            }
            return signs;
        }

        static int digits(int n) {
            int digits = 1;
            for (int rest = n / 10; rest > 0; rest /= 10) {
                digits++;
            }
            return digits;
        }
    }

    private static final class Feed {
        final StringBuilder page = new StringBuilder();
        int form = 0;
        int gap = FIRST_GAP;
        int due = 0;
        int fetches = 0;
        int faults = 0;

        void appendEntry(int name, int time, int a, int b, int c) {
            if (form == 0) {
                appendNumber(name);
                page.append(',');
                appendNumber(time);
                page.append(',');
                appendWords(a, b, c);
                page.append(';');
            } else {
                page.append('<');
                appendWords(a, b, c);
                page.append('/');
                appendNumber(time);
                if (name != NONE) {
                    page.append('/');
                    appendNumber(name);
                }
                page.append('>');
            }
        }

        private void appendNumber(int n) {
            if (n != NONE) {
                page.append(n);
            }
        }

        private void appendWords(int a, int b, int c) {
            appendWord(a);
            if (b != NONE) {
                page.append(' ');
                appendWord(b);
            }
            if (c != NONE) {
                page.append(' ');
                appendWord(c);
            }
        }

        private void appendWord(int word) {
            page.append((char) ('a' + word / LETTERS));
            page.append((char) ('a' + word % LETTERS));
        }

        /** Tells when the FEED is DUE again: sooner where FETCHING paid, later where it did not. */
        void settle(boolean hasPaid, boolean isBroken, int clock) {
            if (hasPaid) {
                gap = Math.max(LEAST_GAP, gap / 2);
            } else if (isBroken) {
                gap = Math.min(MOST_GAP, 3 * gap);
            } else {
                gap = Math.min(MOST_IDLE_GAP, 2 * gap);
            }
            due = clock + gap;
            fetches++;
        }
    }

    /** Reads a text from the left on: PIECES between ";", or what both FORMS call ENTRIES. */
    private static final class PageReader {
        static final int OVER = 0;
        static final int ENTRY = 1;
        static final int FAULT = 2;
        private static final int TOO_MUCH = 100000;

        private StringBuilder signs = new StringBuilder();
        private int form = 0;
        private int at = 0;
        private int from = 0;
        private int to = 0;
        final StringBuilder text = new StringBuilder();
        int name = NONE;
        int time = 0;
        int feedForm = 0;
        int feedGap = 0;

        void start(StringBuilder what, int itsForm) {
            signs = what;
            form = itsForm;
            at = 0;
        }

        /** OVER, FAULT, or an ENTRY, whose name, time and text stand here then. */
        int next() {
            if (form == 0) {
                if (!nextPiece()) {
                    return OVER;
                }
                return isPieceEntry() ? ENTRY : FAULT;
            }
            int open = placeOf('<', at, signs.length());
            if (open == NONE) {
                at = signs.length();
                return OVER;
            }
            from = open + 1;
            to = from;
            while (to < signs.length() && signs.charAt(to) != '<' && signs.charAt(to) != '>') {
                to++;
            }
            at = to;
            if (to >= signs.length() || signs.charAt(to) == '<') {
                return FAULT;
            }
            at = to + 1;
            return isTagEntry() ? ENTRY : FAULT;
        }

        boolean nextPiece() {
            from = at;
            while (from < signs.length() && signs.charAt(from) == ';') {
                from++;
            }
            to = from;
            while (to < signs.length() && signs.charAt(to) != ';') {
                to++;
            }
            at = to;
            return from < to;
        }

        /** Whether the PIECE is one of bring(); its feedForm and feedGap stand here then. */
        boolean isFeedPiece() {
            int colon = placeOf(':', from, to);
            if (colon == NONE) {
                return false;
            }
            feedForm = number(from, colon);
            feedGap = number(colon + 1, to);
            return isWithin(feedForm, 0, 1) && isWithin(feedGap, LEAST_GAP, MOST_GAP);
        }

        private boolean isPieceEntry() {
            int first = placeOf(',', from, to);
            int second = first == NONE ? NONE : placeOf(',', first + 1, to);
            if (second == NONE || placeOf(',', second + 1, to) != NONE) {
                return false;
            }
            name = number(from, first);
            time = number(first + 1, second);
            boolean isNamed = first > from;
            return readWords(second + 1, to) && isEntry(isNamed);
        }

        private boolean isTagEntry() {
            int first = placeOf('/', from, to);
            if (first == NONE) {
                return false;
            }
            int second = placeOf('/', first + 1, to);
            boolean isNamed = second != NONE;
            if (isNamed && placeOf('/', second + 1, to) != NONE) {
                return false;
            }
            time = number(first + 1, isNamed ? second : to);
            name = isNamed ? number(second + 1, to) : NONE;
            return readWords(from, first) && isEntry(isNamed);
        }

        private boolean isEntry(boolean isNamed) {
            if (!isNamed) {
                name = nameOfText();
            }
            return isWithin(time, 0, MOST_TIME) && (!isNamed || isWithin(name, 0, MOST_NAME));
        }

        private static boolean isWithin(int n, int least, int most) {
            return n >= least && n <= most;
        }

        private int placeOf(char sign, int start, int end) {
            for (int i = start; i < end; i++) {
                if (signAt(i) == sign) {
                    return i;
                }
            }
            return NONE;
        }

        private char signAt(int place) {
            return place >= 0 && place < signs.length() ? signs.charAt(place) : ';';
        }

        /** NONE if that is no NUMBER; all that are too great for any use are alike. */
        private int number(int start, int end) {
            int n = start < end ? 0 : NONE;
            for (int i = start; i < end; i++) {
                char sign = signAt(i);
                if (sign < '0' || sign > '9') {
                    return NONE;
                }
                n = Math.min(TOO_MUCH, n * 10 + (sign - '0'));
            }
            return n;
        }

        /** Puts the WORDS into text, with one blank between two; whether there are 1 to 5, and only blanks else. */
        private boolean readWords(int start, int end) {
            int words = 0;
            char before = ' ';
            text.setLength(0);
            for (int i = start; i < end; i++) {
                char sign = signAt(i);
                if (sign != ' ') {
                    if (sign < 'a' || sign > 'h') {
                        return false;
                    }
                    if (before == ' ') {
                        words++;
                        if (words > 1) {
                            text.append(' ');
                        }
                    }
                    text.append(sign);
                }
                before = sign;
            }
            return isWithin(words, 1, MOST_WORDS);
        }

        private int nameOfText() {
            int sum = 0;
            for (int i = 0; i < text.length(); i++) {
                char sign = text.charAt(i);
                sum = (7 * sum + (sign == ' ' ? 0 : sign - 'a' + 1)) % NAME_SPAN;
            }
            return NAMELESS + sum;
        }
    }

    private static final class Item {
        boolean isKept = false;
        int feed = 0;
        int name = 0;
        int time = 0;
        String text = "";
        int words = 0;
        /** Where WORDS begin in text, and behind the last one, where one more would. */
        final int[] start = new int[MOST_WORDS + 1];
        /** A number by the signs of each WORD: where these are unlike, the WORDS are. */
        private final int[] code = new int[MOST_WORDS];
        /** Which of the 64 WORDS are in text, as a set. */
        long shortWords = 0L;
        int changed = 0;
        int change = 0;
        int cameAt = 0;
        /** As it was when ITEMS were ranked last. */
        int score = 0;

        void become(int newTime, String newText) {
            time = newTime;
            text = newText;
            words = 0;
            shortWords = 0L;
            int from = 0;
            int itsCode = 0;
            for (int i = 0; i <= text.length(); i++) {
                if (i == text.length() || text.charAt(i) == ' ') {
                    addWord(from, i, itsCode);
                    from = i + 1;
                    itsCode = 0;
                } else {
                    itsCode = itsCode * 31 + text.charAt(i);
                }
            }
        }

        private void addWord(int from, int to, int itsCode) {
            if (words < MOST_WORDS) {
                code[words] = itsCode;
                start[words] = from;
                words++;
                start[words] = to + 1;
            }
            if (to - from == 2) {
                shortWords |= 1L << ((text.charAt(from) - 'a') * LETTERS + text.charAt(from + 1) - 'a');
            }
        }

        boolean hasWord(int word) {
            return word >= 0 && word < WORDS && (shortWords >>> word & 1L) != 0L;
        }

        int signsOfWord(int word) {
            return start[word + 1] - 1 - start[word];
        }

        boolean isSameWord(int word, Item other, int otherWord) {
            if (code[word] != other.code[otherWord]) {
                return false;
            }
            int signs = signsOfWord(word);
            if (signs != other.signsOfWord(otherWord)) {
                return false;
            }
            for (int i = 0; i < signs; i++) {
                if (text.charAt(start[word] + i) != other.text.charAt(other.start[otherWord] + i)) {
                    return false;
                }
            }
            return true;
        }
    }

    /** All ITEMS that came, also those that are GONE, and which of them are held APART. */
    private static final class Items {
        static final int LEFT = 0;
        static final int CAME = 1;
        static final int CHANGED = 2;
        static final int REFUSED = 3;

        final Item[] all = new Item[MOST_ITEMS];
        int came = 0;
        private final long[] apartFrom = new long[MOST_ITEMS];

        Items() {
            for (int i = 0; i < all.length; i++) {
                all[i] = new Item();
            }
        }

        boolean isKept(int item) {
            return item >= 0 && item < all.length && all[item].isKept;
        }

        /** Which ITEM came with that NAME, even if it is GONE; NONE without. */
        int numberOf(int feed, int name) {
            for (int i = 0; i < came; i++) {
                if (all[i].feed == feed && all[i].name == name) {
                    return i;
                }
            }
            return NONE;
        }

        /** Takes an ENTRY of a FEED: tells what it did. */
        int take(int feed, PageReader entry, int clock) {
            int number = numberOf(feed, entry.name);
            if (number == NONE) {
                return welcome(feed, entry, clock);
            }
            Item item = all[number];
            if (!item.isKept) {
                return LEFT;
            }
            int otherText = compared(entry.text, item.text);
            boolean isOtherTime = entry.time != item.time;
            if (isOtherTime ? entry.time < item.time : otherText <= 0) {
                return LEFT;
            }
            item.changed++;
            item.change = (isOtherTime ? 1 : 0) + (otherText != 0 ? 2 : 0);
            item.become(entry.time, otherText != 0 ? entry.text.toString() : item.text);
            return CHANGED;
        }

        private int welcome(int feed, PageReader entry, int clock) {
            if (came >= all.length) {
                return REFUSED;
            }
            Item item = all[came];
            came++;
            item.isKept = true;
            item.feed = feed;
            item.name = entry.name;
            item.cameAt = clock;
            item.become(entry.time, entry.text.toString());
            return CAME;
        }

        /** Below 0, 0 or above 0; a blank is less than each letter, as it is for characters too. */
        private static int compared(StringBuilder one, String other) {
            int both = Math.min(one.length(), other.length());
            for (int i = 0; i < both; i++) {
                if (one.charAt(i) != other.charAt(i)) {
                    return one.charAt(i) - other.charAt(i);
                }
            }
            return one.length() - other.length();
        }

        /** How many ITEMS came of a FEED, or of all (NONE); perhaps those alone that are KEPT. */
        int countOf(int feed, boolean areKept) {
            int count = 0;
            for (int i = 0; i < came; i++) {
                if ((feed == NONE || all[i].feed == feed) && (all[i].isKept || !areKept)) {
                    count++;
                }
            }
            return count;
        }

        /** Whether their TIMES are near enough for a STORY, and no hand holds them APART. */
        boolean mayJoin(int one, int other) {
            return Math.abs(all[one].time - all[other].time) <= AKIN_MINUTES && !areApart(one, other);
        }

        boolean areApart(int one, int other) {
            return (apartFrom[one] >>> other & 1L) != 0L;
        }

        void hold(int one, int other, boolean isApart) {
            if (isApart) {
                apartFrom[one] |= 1L << other;
                apartFrom[other] |= 1L << one;
            } else {
                apartFrom[one] &= ~(1L << other);
                apartFrom[other] &= ~(1L << one);
            }
        }

        /** Each pair stands in the sets of both. */
        int countApart() {
            int sides = 0;
            for (int i = 0; i < apartFrom.length; i++) {
                sides += Long.bitCount(apartFrom[i]);
            }
            return sides / 2;
        }

        void dismiss(int item) {
            all[item].isKept = false;
            for (int i = 0; i < all.length; i++) {
                hold(item, i, false);
            }
        }

        boolean areNamesUnlike() {
            for (int i = 0; i < came; i++) {
                if (numberOf(all[i].feed, all[i].name) != i) {
                    return false;
                }
            }
            return true;
        }

        boolean areApartKept() {
            for (int i = 0; i < all.length; i++) {
                for (int j = 0; j < all.length; j++) {
                    if (areApart(i, j) && !(all[i].isKept && all[j].isKept)) {
                        return false;
                    }
                }
            }
            return true;
        }
    }

    /** Which KEPT ITEMS stand together; they are joined anew whenever ITEMS or pairs APART changed. */
    private static final class Stories {
        /** For each WORD of an ITEM the first place at which it stands in any, or NONE. */
        private final int[] word = new int[MOST_ITEMS * MOST_WORDS];
        /** By that place, which ITEMS have the WORD, as a set. */
        private final long[] havers = new long[MOST_ITEMS * MOST_WORDS];
        private final long[] akin = new long[MOST_ITEMS];
        /** The smallest number in the STORY of each KEPT ITEM. */
        final int[] number = new int[MOST_ITEMS];
        final int[] size = new int[MOST_ITEMS];

        Stories() {
            Arrays.fill(word, NONE);
            Arrays.fill(number, NONE);
        }

        /** To be called ahead of join() when TEXTS came, changed, or went. */
        void learn(Items items) {
            Arrays.fill(word, NONE);
            Arrays.fill(havers, 0L);
            for (int i = 0; i < MOST_ITEMS; i++) {
                if (items.isKept(i)) {
                    placeWords(items, i);
                }
            }
        }

        /** To be called when ITEMS or pairs APART are other ones. */
        void join(Items items) {
            for (int i = 0; i < MOST_ITEMS; i++) {
                akin[i] = akinOf(items, i);
            }
            Arrays.fill(number, NONE);
            Arrays.fill(size, 0);
            for (int i = 0; i < MOST_ITEMS; i++) {
                if (items.isKept(i) && number[i] == NONE) {
                    tell(reached(i), i);
                }
            }
        }

        private void placeWords(Items items, int item) {
            int first = item * MOST_WORDS;
            for (int k = 0; k < items.all[item].words; k++) {
                int place = firstPlace(items, item, k);
                word[first + k] = place;
                havers[place] |= 1L << item;
            }
        }

        private int firstPlace(Items items, int item, int k) {
            int own = item * MOST_WORDS + k;
            for (int i = 0; i < own; i++) {
                if (word[i] == i && items.all[item].isSameWord(k, items.all[i / MOST_WORDS], i % MOST_WORDS)) {
                    return i;
                }
            }
            return own;
        }

        /** Whether a place has a RARE WORD that does not stand ahead of it in the same ITEM. */
        private boolean isNewRare(int place) {
            int first = word[place];
            if (first == NONE || Long.bitCount(havers[first]) > RARE) {
                return false;
            }
            for (int i = place - place % MOST_WORDS; i < place; i++) {
                if (word[i] == first) {
                    return false;
                }
            }
            return true;
        }

        /** How many unlike RARE WORDS both have. */
        int rareInBoth(int one, int other) {
            int count = 0;
            int first = one * MOST_WORDS;
            for (int i = first; i < first + MOST_WORDS; i++) {
                if (isNewRare(i) && (havers[word[i]] >>> other & 1L) != 0L) {
                    count++;
                }
            }
            return count;
        }

        /** Those that are AKIN to an ITEM, as a set: they have two of its RARE WORDS, and nothing parts them. */
        private long akinOf(Items items, int one) {
            long once = 0L;
            long twice = 0L;
            int first = one * MOST_WORDS;
            for (int i = first; i < first + MOST_WORDS; i++) {
                if (isNewRare(i)) {
                    twice |= once & havers[word[i]];
                    once |= havers[word[i]];
                }
            }
            long set = 0L;
            for (int other = 0; other < MOST_ITEMS; other++) {
                if ((twice >>> other & 1L) != 0L && other != one && items.mayJoin(one, other)) {
                    set |= 1L << other;
                }
            }
            return set;
        }

        /** The set of all to which one comes from an ITEM by AKIN ones, with itself. */
        private long reached(int item) {
            long set = 1L << item;
            for (int round = 0; round < MOST_ITEMS; round++) {
                long wider = set;
                for (int i = 0; i < MOST_ITEMS; i++) {
                    if ((set >>> i & 1L) != 0L) {
                        wider |= akin[i];
                    }
                }
                if (wider == set) {
                    break;
                }
                set = wider;
            }
            return set;
        }

        private void tell(long set, int smallest) {
            for (int i = smallest; i < MOST_ITEMS; i++) {
                if ((set >>> i & 1L) != 0L) {
                    number[i] = smallest;
                    size[i] = Long.bitCount(set);
                }
            }
        }

        int countAll() {
            int count = 0;
            for (int i = 0; i < MOST_ITEMS; i++) {
                count += number[i] == i ? 1 : 0;
            }
            return count;
        }

        /** Whether each STORY is what one comes to by going from ITEM to ITEM. */
        boolean areRight(Items items) {
            for (int i = 0; i < MOST_ITEMS; i++) {
                if (items.isKept(i) ? !isRight(items, i) : number[i] != NONE) {
                    return false;
                }
            }
            return true;
        }

        private boolean isRight(Items items, int item) {
            long members = 0L;
            int smallest = NONE;
            for (int i = 0; i < MOST_ITEMS; i++) {
                boolean isAkin = i != item && items.mayJoin(item, i) && rareInBoth(item, i) >= AKIN_WORDS;
                if (isAkin != ((akin[item] >>> i & 1L) != 0L)) {
                    return false;
                }
                if (number[i] == number[item]) {
                    members |= 1L << i;
                    smallest = smallest == NONE ? i : smallest;
                }
            }
            return members == reached(item) && smallest == number[item] && size[item] == Long.bitCount(members);
        }
    }

    private static final class Rule {
        int kind = 0;
        int value = 0;
        int points = 0;
    }

    private static final class Question {
        final int[] kind = new int[CONDITIONS];
        final int[] value = new int[CONDITIONS];
        final boolean[] isNot = new boolean[CONDITIONS];
        int size = 0;
    }

    /** MARKS that were given other values together, with what they were before and the STAMPS they got. */
    private static final class Step {
        final int[] place = new int[MOST_ITEMS];
        final int[] before = new int[MOST_ITEMS];
        final int[] stamp = new int[MOST_ITEMS];
        int size = 0;

        void add(int itsPlace, int itsValue, int itsStamp) {
            if (size < place.length) {
                place[size] = itsPlace;
                before[size] = itsValue;
                stamp[size] = itsStamp;
                size++;
            }
        }
    }

    private static final class Letter {
        int from = 0;
        int to = 0;
        int size = 0;
        final int[] row = new int[DESKS];
        final int[] value = new int[PLACES];
        /** 0 where the LETTER does not have the MARK. */
        final int[] stamp = new int[PLACES];

        void fill(Desk sender, int receiver) {
            from = sender.number;
            to = receiver;
            size = 0;
            for (int d = 0; d < DESKS; d++) {
                row[d] = sender.row[d];
            }
            for (int place = 0; place < PLACES; place++) {
                boolean isNews = sender.hasNewsFor(receiver, place);
                value[place] = isNews ? sender.value[place] : 0;
                stamp[place] = isNews ? sender.stamp[place] : 0;
                size += isNews ? 1 : 0;
            }
        }

        int fact(int what) {
            switch (what) {
                case 0: return from;
                case 1: return to;
                case 2: return size;
                case 3: return row[0];
                case 4: return row[1];
                default: return row[2];
            }
        }
    }

    /** MARK what of an ITEM stands at the place item * MARKS + what. */
    private static final class Desk {
        final int number;
        final int[] value = new int[PLACES];
        final int[] stamp = new int[PLACES];
        final int[] row = new int[DESKS];
        final int[] knows = new int[DESKS * DESKS];
        int count = 0;
        private final Step[] steps = new Step[MOST_STEPS];
        private int stepsMade = 0;
        int stepsKept = 0;
        final Numbers[] digests = new Numbers[MOST_DIGESTS];
        final int[] digestClock = new int[MOST_DIGESTS];
        int digestsMade = 0;
        int itemsListed = 0;
        private long listed = 0L;
        int zone = 0;
        int morning = FIRST_MORNING;

        Desk(int itsNumber) {
            number = itsNumber;
            for (int i = 0; i < steps.length; i++) {
                steps[i] = new Step();
            }
            for (int i = 0; i < digests.length; i++) {
                digests[i] = new Numbers();
            }
        }

        int valueOf(int item, int what) {
            return value[item * MARKS + what];
        }

        boolean isRead(int item) {
            return value[item * MARKS + READ] == 1;
        }

        int countMarked(int what) {
            int marks = 0;
            for (int i = 0; i < MOST_ITEMS; i++) {
                marks += valueOf(i, what) != 0 ? 1 : 0;
            }
            return marks;
        }

        private void act(int place, int newValue) {
            count++;
            value[place] = newValue;
            stamp[place] = DESKS * count + number;
            row[number] = count;
        }

        /** An empty STEP, kept from now on; the oldest one gives way. */
        Step nextStep() {
            Step step = steps[stepsMade % MOST_STEPS];
            step.size = 0;
            stepsMade++;
            stepsKept = Math.min(MOST_STEPS, stepsKept + 1);
            return step;
        }

        void change(int place, int newValue, Step step) {
            int before = value[place];
            act(place, newValue);
            step.add(place, before, stamp[place]);
        }

        /** Undoes the last STEP; how many ACTS that made. */
        int takeBackStep(Items items) {
            if (stepsKept <= 0 || stepsMade <= 0) {
                return 0;
            }
            stepsKept--;
            stepsMade--;
            Step step = steps[stepsMade % MOST_STEPS];
            int acts = 0;
            for (int i = 0; i < step.size; i++) {
                int place = step.place[i];
                if (items.isKept(place / MARKS) && stamp[place] == step.stamp[i]) {
                    act(place, step.before[i]);
                    acts++;
                }
            }
            return acts;
        }

        /** Whether a LETTER has to tell that MARK, by what is KNOWN of its receiver. */
        boolean hasNewsFor(int receiver, int place) {
            int itsStamp = stamp[place];
            return itsStamp > 0 && itsStamp / DESKS > knows[receiver * DESKS + itsStamp % DESKS];
        }

        /** How many MARKS got a STAMP by that LETTER. */
        int take(Letter letter, Items items) {
            int taken = 0;
            for (int place = 0; place < PLACES; place++) {
                if (letter.stamp[place] > stamp[place] && items.isKept(place / MARKS)) {
                    value[place] = letter.value[place];
                    stamp[place] = letter.stamp[place];
                    taken++;
                }
            }
            for (int d = 0; d < DESKS; d++) {
                int known = letter.from * DESKS + d;
                row[d] = Math.max(row[d], letter.row[d]);
                knows[known] = Math.max(knows[known], letter.row[d]);
                count = Math.max(count, letter.row[d]);
            }
            return taken;
        }

        void wipe(int item) {
            for (int what = 0; what < MARKS; what++) {
                value[item * MARKS + what] = 0;
                stamp[item * MARKS + what] = 0;
            }
        }

        /** An empty DIGEST, kept from now on; the oldest one gives way. */
        Numbers nextDigest(int clock) {
            int which = digestsMade % MOST_DIGESTS;
            digestsMade++;
            digestClock[which] = clock;
            digests[which].empty();
            return digests[which];
        }

        int digestsKept() {
            return Math.min(digestsMade, MOST_DIGESTS);
        }

        boolean isUnlisted(int item) {
            return (listed >>> item & 1L) == 0L;
        }

        void noteListed(int item) {
            listed |= 1L << item;
            itemsListed++;
        }

        /** The clock, a colon, and each ITEM with a blank ahead. */
        int signsOfLastDigest() {
            if (digestsMade <= 0) {
                return 0;
            }
            int which = (digestsMade - 1) % MOST_DIGESTS;
            Numbers last = digests[which];
            return Numbers.digits(digestClock[which]) + 1 + (last.size > 0 ? 1 + last.signs() : 0);
        }

        boolean areMarksSound() {
            for (int place = 0; place < PLACES; place++) {
                if (value[place] != 0 && stamp[place] <= 0) {
                    return false;
                }
                if (stamp[place] > 0 && stamp[place] / DESKS > row[stamp[place] % DESKS]) {
                    return false;
                }
            }
            return true;
        }

        boolean hasRowOf(Desk other) {
            for (int d = 0; d < DESKS; d++) {
                if (row[d] != other.row[d]) {
                    return false;
                }
            }
            return true;
        }

        boolean hasMarksOf(Desk other) {
            for (int place = 0; place < PLACES; place++) {
                if (value[place] != other.value[place] || stamp[place] != other.stamp[place]) {
                    return false;
                }
            }
            return true;
        }

        boolean areDigestsUnlike() {
            long met = 0L;
            for (int i = 0; i < digestsKept(); i++) {
                Numbers digest = digests[i];
                for (int k = 0; k < digest.size; k++) {
                    long one = 1L << digest.at(k);
                    if ((met & one) != 0L) {
                        return false;
                    }
                    met |= one;
                }
            }
            return true;
        }
    }
}
