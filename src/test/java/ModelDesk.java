import java.util.ArrayDeque;
import java.util.ArrayList;
import java.util.Comparator;
import java.util.Deque;
import java.util.List;
import java.util.regex.Matcher;
import java.util.regex.Pattern;

/**
 * The document once more, by other means: it keeps all events, values and activations in lists,
 * copies its whole state for each act, and reads scripts by patterns.
 */
final class ModelDesk {

    static final int BAD = -20001;
    static final int STATE = -20002;
    static final int FULL = -20003;
    static final int NONE = -20009;

    private static final Pattern SCRIPT;
    private static final Pattern COMMAND = Pattern.compile(
            "(?:(set) (\\d+)=(-?\\d+))|(?:(shelve) (\\d+):(\\d+))|(?:(ack|tick|state) (\\d+))");

    static {
        String command = "(?:[s]et \\d{1,5}=-?\\d{1,5}|[a]ck \\d{1,5}|[s]helve \\d{1,5}:\\d{1,5}"
                + "|[t]ick \\d{1,5}|[s]tate \\d{1,5})";
        SCRIPT = Pattern.compile(command + "(?:;" + command + ")*");
    }

    private static final class Spot implements Cloneable {
        int[] settings = {0, 100, 0, 0, 0, 3, 0};
        int value;
        Spot root;
        boolean alarm;
        boolean open;
        int count;
        int shelf;
        List<Integer> activations = new ArrayList<>();
        List<Integer> values = new ArrayList<>();

        boolean over(int v) {
            return settings[0] == 0 ? v >= settings[1] : v <= settings[1];
        }

        boolean clear(int v, int deadband) {
            if (deadband == 0) {
                return !over(v);
            }
            int side = settings[0] == 0 ? 1 : -1;
            return side * v < side * settings[1] - deadband;
        }

        int latest() {
            return activations.isEmpty() ? 0 : activations.get(activations.size() - 1);
        }
    }

    private static final class Plant {
        List<Spot> spots = new ArrayList<>();
        List<int[]> events = new ArrayList<>();
        List<Integer> acks = new ArrayList<>();
        int time;
        int state;
        int window = 10;
        int high = 5;
        int low = 2;
        int floodSince = -1;

        Plant copy() {
            Plant c = new Plant();
            for (Spot s : spots) {
                Spot t = new Spot();
                t.settings = s.settings.clone();
                t.value = s.value;
                t.alarm = s.alarm;
                t.open = s.open;
                t.count = s.count;
                t.shelf = s.shelf;
                t.activations = new ArrayList<>(s.activations);
                t.values = new ArrayList<>(s.values);
                c.spots.add(t);
            }
            for (int k = 0; k < spots.size(); k++) {
                Spot root = spots.get(k).root;
                c.spots.get(k).root = root == null ? null : c.spots.get(spots.indexOf(root));
            }
            c.events = new ArrayList<>(events);
            c.acks = new ArrayList<>(acks);
            c.time = time;
            c.state = state;
            c.window = window;
            c.high = high;
            c.low = low;
            c.floodSince = floodSince;
            return c;
        }

        int rate() {
            int rate = 0;
            for (Spot s : spots) {
                rate += (int) s.activations.stream().filter(t -> t > time - window).count();
            }
            return rate;
        }

        void event(int what, int point) {
            events.add(0, new int[] {time, what, point});
        }
    }

    private Plant p = new Plant();
    private final Deque<Plant> history = new ArrayDeque<>();
    private String buffer = "";

    private static boolean in(int x, int from, int to) {
        return from <= x && x <= to;
    }

    private boolean known(int point) {
        return in(point, 0, p.spots.size() - 1);
    }

    private void act() {
        history.addLast(p.copy());
        if (history.size() > 4) {
            history.removeFirst();
        }
    }

    int add(int limit, int priority) {
        if (!in(limit, -10000, 10000) || !in(priority, 1, 4)) {
            return BAD;
        }
        if (p.spots.size() == 16) {
            return FULL;
        }
        act();
        Spot s = new Spot();
        s.settings[1] = limit;
        s.settings[5] = priority;
        p.spots.add(s);
        return p.spots.size() - 1;
    }

    int set(int point, int setting, int value) {
        int[][] ranges = {{0, 1}, {-10000, 10000}, {0, 1000}, {0, 20}, {0, 20}, {1, 4}, {0, 15}};
        if (!known(point) || !in(setting, 0, 6)
                || !in(value, ranges[setting][0], ranges[setting][1])) {
            return BAD;
        }
        act();
        Spot s = p.spots.get(point);
        int previous = s.settings[setting];
        s.settings[setting] = value;
        if (s.shelf != 0 && s.settings[5] == 1) {
            s.shelf = 0;
            p.event(5, point);
        }
        return previous;
    }

    int setRoot(int point, int root) {
        if (!known(point) || root != -1 && !known(root)) {
            return BAD;
        }
        Spot s = p.spots.get(point);
        Spot r = root == -1 ? null : p.spots.get(root);
        for (Spot up = r; up != null; up = up.root) {
            if (up == s) {
                return STATE;
            }
        }
        int previous = p.spots.indexOf(s.root);
        act();
        s.root = r;
        return previous;
    }

    int setValue(int point, int value) {
        if (!known(point) || !in(value, -10000, 10000)) {
            return BAD;
        }
        act();
        return changeValue(point, value);
    }

    private int changeValue(int point, int value) {
        if (!known(point) || !in(value, -10000, 10000)) {
            return BAD;
        }
        int previous = p.spots.get(point).value;
        p.spots.get(point).value = value;
        return previous;
    }

    int point(int point, int what) {
        if (!known(point) || !in(what, 0, 15)) {
            return BAD;
        }
        Spot s = p.spots.get(point);
        if (what <= 6) {
            return s.settings[what];
        }
        int[] rest = {s.value, p.spots.indexOf(s.root), s.alarm ? 1 : 0, s.open ? 0 : 1, s.count,
            s.latest(), s.shelf, s.activations.size(), hidden(s)};
        return rest[what - 7];
    }

    private int hidden(Spot s) {
        if (!s.alarm && !s.open) {
            return NONE;
        }
        if (s.shelf != 0) {
            return 1;
        }
        boolean can = s.settings[5] != 1;
        if (can && (s.settings[6] / (1 << p.state)) % 2 == 1) {
            return 2;
        }
        for (Spot up = s.root; up != null; up = up.root) {
            if (can && up.alarm) {
                return 3;
            }
        }
        boolean late = p.floodSince != -1 && s.latest() >= p.floodSince;
        return late && (s.settings[5] == 3 || s.settings[5] == 4) ? 4 : 0;
    }

    int points() {
        return p.spots.size();
    }

    int setState(int state) {
        if (!in(state, 0, 3)) {
            return BAD;
        }
        act();
        int previous = p.state;
        p.state = state;
        return previous;
    }

    int setFlood(int window, int high, int low) {
        if (!in(window, 1, 60) || !in(high, 1, 50) || !in(low, 0, high)) {
            return BAD;
        }
        act();
        int previous = p.window * 10000 + p.high * 100 + p.low;
        p.window = window;
        p.high = high;
        p.low = low;
        return previous;
    }

    int tick(int ticks) {
        if (!in(ticks, 1, 100)) {
            return BAD;
        }
        if (p.time > 10000 - ticks) {
            return STATE;
        }
        act();
        return pass(ticks);
    }

    private int pass(int ticks) {
        if (!in(ticks, 1, 100)) {
            return BAD;
        }
        if (p.time > 10000 - ticks) {
            return STATE;
        }
        for (int k = 0; k < ticks; k++) {
            p.time++;
            p.spots.forEach(this::move);
            for (Spot s : p.spots) {
                if (s.shelf != 0 && p.time >= s.shelf) {
                    s.shelf = 0;
                    p.event(5, p.spots.indexOf(s));
                }
            }
            if (p.floodSince == -1 && p.rate() > p.high) {
                p.floodSince = p.time;
                p.event(6, NONE);
            } else if (p.floodSince != -1 && p.rate() <= p.low) {
                p.floodSince = -1;
                p.event(7, NONE);
            }
            p.spots.forEach(s -> s.values.add(s.value));
        }
        return p.time;
    }

    private void move(Spot s) {
        if (!s.alarm) {
            s.count = s.over(s.value) ? s.count + 1 : 0;
            if (s.count > s.settings[3]) {
                s.alarm = true;
                s.open = true;
                s.count = 0;
                s.activations.add(p.time);
                p.event(1, p.spots.indexOf(s));
            }
        } else {
            s.count = s.clear(s.value, s.settings[2]) ? s.count + 1 : 0;
            if (s.count > s.settings[4]) {
                s.alarm = false;
                s.count = 0;
                p.event(2, p.spots.indexOf(s));
            }
        }
    }

    int plant(int what) {
        if (!in(what, 0, 4)) {
            return BAD;
        }
        int all = 0;
        for (Spot s : p.spots) {
            all += s.activations.size();
        }
        return new int[] {p.time, p.state, p.floodSince == -1 ? 0 : 1, p.rate(), all}[what];
    }

    int ack(int point) {
        if (!known(point)) {
            return BAD;
        }
        if (!p.spots.get(point).open) {
            return STATE;
        }
        act();
        return acknowledge(point);
    }

    private int acknowledge(int point) {
        if (!known(point)) {
            return BAD;
        }
        Spot s = p.spots.get(point);
        if (!s.open) {
            return STATE;
        }
        s.open = false;
        int passed = p.time - s.latest();
        p.acks.add(passed);
        p.event(3, point);
        return passed;
    }

    int ackAll() {
        act();
        int found = 0;
        for (Spot s : shown()) {
            if (s.open) {
                acknowledge(p.spots.indexOf(s));
                found++;
            }
        }
        return found;
    }

    private List<Spot> shown() {
        List<Spot> shown = new ArrayList<>(p.spots);
        shown.removeIf(s -> hidden(s) != 0);
        shown.sort(Comparator.<Spot>comparingInt(s -> s.settings[5])
                .thenComparing(s -> !s.open)
                .thenComparingInt(Spot::latest)
                .thenComparingInt(s -> p.spots.indexOf(s)));
        return shown;
    }

    int shelve(int point, int ticks) {
        if (!known(point) || !in(ticks, 1, 1000)) {
            return BAD;
        }
        if (p.spots.get(point).settings[5] == 1) {
            return STATE;
        }
        act();
        return putAway(point, ticks);
    }

    private int putAway(int point, int ticks) {
        if (!known(point) || !in(ticks, 1, 1000)) {
            return BAD;
        }
        if (p.spots.get(point).settings[5] == 1) {
            return STATE;
        }
        p.event(4, point);
        p.spots.get(point).shelf = p.time + ticks;
        return p.time + ticks;
    }

    int unshelve(int point) {
        if (!known(point)) {
            return BAD;
        }
        int left = p.spots.get(point).shelf - p.time;
        if (p.spots.get(point).shelf == 0) {
            return STATE;
        }
        act();
        p.spots.get(point).shelf = 0;
        p.event(5, point);
        return left;
    }

    int list(int i) {
        if (i < 0) {
            return BAD;
        }
        List<Spot> shown = shown();
        return i < shown.size() ? p.spots.indexOf(shown.get(i)) : NONE;
    }

    int count(int what) {
        if (!in(what, 0, 7)) {
            return BAD;
        }
        int found = 0;
        for (Spot s : p.spots) {
            int hidden = hidden(s);
            boolean[] is = {hidden != NONE, hidden == 0, hidden == 1, hidden == 2, hidden == 3,
                hidden == 4, s.shelf != 0, s.open};
            found += is[what] ? 1 : 0;
        }
        return found;
    }

    int events() {
        return p.events.size();
    }

    int event(int i, int what) {
        if (i < 0 || !in(what, 0, 2)) {
            return BAD;
        }
        return i < 30 && i < p.events.size() ? p.events.get(i)[what] : NONE;
    }

    float meanAck() {
        int sum = 0;
        for (int passed : p.acks) {
            sum += passed;
        }
        return p.acks.isEmpty() ? 0 : (float) sum / (float) p.acks.size();
    }

    int worst() {
        int[] found = new int[16];
        for (int[] e : p.events.subList(0, Math.min(30, p.events.size()))) {
            if (e[1] == 1) {
                found[e[2]]++;
            }
        }
        int best = -1;
        for (int k = 15; k >= 0; k--) {
            if (found[k] > 0 && (best == -1 || found[k] >= found[best])) {
                best = k;
            }
        }
        return best == -1 ? NONE : best;
    }

    int replay(int point, int deadband) {
        if (!known(point) || !in(deadband, 0, 1000)) {
            return BAD;
        }
        Spot s = p.spots.get(point);
        ModelDesk again = new ModelDesk();
        again.add(0, 1);
        Spot t = again.p.spots.get(0);
        t.settings = s.settings.clone();
        t.settings[2] = deadband;
        for (int v : s.values.subList(Math.max(0, s.values.size() - 40), s.values.size())) {
            t.value = v;
            again.move(t);
        }
        return t.activations.size();
    }

    int leastDeadband(int point, int times) {
        if (!known(point) || !in(times, 0, 40)) {
            return BAD;
        }
        for (int deadband = 0; deadband <= 1000; deadband++) {
            if (replay(point, deadband) <= times) {
                return deadband;
            }
        }
        return NONE;
    }

    int type(int c) {
        if (!in(c, 32, 126)) {
            return BAD;
        }
        if (buffer.length() == 80) {
            return FULL;
        }
        buffer += (char) c;
        return buffer.length();
    }

    int clear() {
        int had = buffer.length();
        buffer = "";
        return had;
    }

    int run() {
        if (!SCRIPT.matcher(buffer).matches()) {
            int place = 0;
            while (place < buffer.length() && canBegin(buffer.substring(0, place + 1))) {
                place++;
            }
            return -100 - place;
        }
        Plant kept = p.copy();
        String[] commands = buffer.split(";");
        for (int k = 0; k < commands.length; k++) {
            if (carryOut(commands[k]) < -20000) {
                p = kept;
                return -1000 - k;
            }
        }
        Plant then = p;
        p = kept;
        act();
        p = then;
        buffer = "";
        return commands.length;
    }

    /** A script can begin so if it is one, or if more characters could make it one. */
    private static boolean canBegin(String text) {
        Matcher matcher = SCRIPT.matcher(text);
        return matcher.matches() || matcher.hitEnd();
    }

    private int carryOut(String command) {
        Matcher m = COMMAND.matcher(command);
        if (!m.matches()) {
            throw new IllegalStateException(command);
        }
        if (m.group(1) != null) {
            return changeValue(Integer.parseInt(m.group(2)), Integer.parseInt(m.group(3)));
        }
        if (m.group(4) != null) {
            return putAway(Integer.parseInt(m.group(5)), Integer.parseInt(m.group(6)));
        }
        int number = Integer.parseInt(m.group(8));
        switch (m.group(7)) {
            case "ack":
                return acknowledge(number);
            case "tick":
                return pass(number);
            default:
                if (!in(number, 0, 3)) {
                    return BAD;
                }
                int previous = p.state;
                p.state = number;
                return previous;
        }
    }

    int undo() {
        if (history.isEmpty()) {
            return NONE;
        }
        p = history.removeLast();
        return history.size();
    }

    long fingerprint() {
        List<Integer> numbers = new ArrayList<>();
        for (int what = 0; what <= 4; what++) {
            numbers.add(plant(what));
        }
        numbers.add(points());
        for (int k = 0; k < points(); k++) {
            for (int what = 0; what <= 15; what++) {
                numbers.add(point(k, what));
            }
        }
        numbers.add(events());
        for (int[] e : p.events.subList(0, Math.min(30, p.events.size()))) {
            for (int number : e) {
                numbers.add(number);
            }
        }
        long print = 157;
        for (int number : numbers) {
            print = 31 * print + number;
        }
        return print;
    }
}
