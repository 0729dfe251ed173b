/**
 * An alarm desk for a plant: values with limits make alarms that are acknowledged, shelved,
 * hidden and listed; events are kept, nuisances are found, and every act can be undone.
 *
 * Every row that a call needs is made in the constructors and used again, so that no call makes
 * an object.
 */
public final class AlarmDesk {

    public static final int BAD = -20001;
    public static final int STATE = -20002;
    public static final int FULL = -20003;
    public static final int NONE = -20009;

    private static final int MOST_POINTS = 16;
    private static final int MOST_PAST = 4;
    private static final int MOST_TICKS = 100;
    private static final int MOST_SHELF_TICKS = 1000;
    private static final int MOST_DEADBAND = 1000;
    private static final int MOST_TIMES = 40;
    private static final int MOST_WINDOW = 60;
    private static final int MOST_HIGH = 50;
    private static final int LAST_TIME = 10000;
    private static final int LAST_STATE = 3;
    private static final int FARTHEST = 10000;
    private static final int VALUES_KEPT = 40;
    private static final int EVENTS_KEPT = 30;
    private static final int PLANT_NUMBERS = 5;
    private static final int POINT_NUMBERS = 16;
    private static final int EVENT_NUMBERS = 3;

    private static final int SETTINGS = 7;
    private static final int KIND = 0;
    private static final int LIMIT = 1;
    private static final int DEADBAND = 2;
    private static final int DELAY_ON = 3;
    private static final int DELAY_OFF = 4;
    private static final int PRIORITY = 5;
    private static final int HIDDEN_IN = 6;
    private static final int[] LEAST_SETTING = {0, -10000, 0, 0, 0, 1, 0};
    private static final int[] MOST_SETTING = {1, 10000, 1000, 20, 20, 4, 15};

    private static final int HIGH_KIND = 0;
    private static final int HIGHEST_PRIORITY = 1;
    private static final int FIRST_FLOODED_PRIORITY = 3;
    private static final int NO_ROOT = -1;

    private static final int SHOWN = 0;
    private static final int BY_SHELF = 1;
    private static final int BY_STATE = 2;
    private static final int BY_ROOT = 3;
    private static final int BY_FLOOD = 4;

    private static final int ACTIVATION = 1;
    private static final int ALARM_OVER = 2;
    private static final int ACKNOWLEDGED = 3;
    private static final int SHELVED = 4;
    private static final int UNSHELVED = 5;
    private static final int FLOOD_BEGINS = 6;
    private static final int FLOOD_ENDS = 7;

    private static final int SET_WORD = 0;
    private static final int ACK_WORD = 1;
    private static final int SHELVE_WORD = 2;
    private static final int TICK_WORD = 3;
    private static final int STATE_WORD = 4;
    private static final int WORDS = 5;

    private final Script script;
    private final int[] order;
    private final State[] past;
    private int pastNumber;
    private State now;
    private State before;

    public AlarmDesk() {
        script = new Script();
        order = new int[MOST_POINTS];
        past = new State[MOST_PAST];
        for (int k = 0; k < MOST_PAST; k++) {
            past[k] = new State();
        }
        now = new State();
        before = new State();
    }

    public int add(int limit, int priority) {
        noteBefore();
        return settle(now.addPoint(limit, priority));
    }

    public int set(int point, int setting, int value) {
        noteBefore();
        return settle(now.changeSetting(point, setting, value));
    }

    public int setRoot(int point, int root) {
        noteBefore();
        return settle(now.changeRoot(point, root));
    }

    public int setValue(int point, int value) {
        noteBefore();
        return settle(now.changeValue(point, value));
    }

    public int point(int point, int what) {
        if (!now.hasPoint(point) || !isIn(what, 0, POINT_NUMBERS - 1)) {
            return BAD;
        }
        return now.pointNumber(point, what);
    }

    public int points() {
        return now.number;
    }

    public int setState(int state) {
        noteBefore();
        return settle(now.changeMode(state));
    }

    public int setFlood(int window, int high, int low) {
        noteBefore();
        return settle(now.changeFlood(window, high, low));
    }

    public int tick(int ticks) {
        noteBefore();
        return settle(now.passTicks(ticks));
    }

    public int plant(int what) {
        switch (what) {
            case 0:
                return now.time;
            case 1:
                return now.mode;
            case 2:
                return now.flood.on ? 1 : 0;
            case 3:
                return now.flood.rateAt(now.time);
            case 4:
                return now.activations;
            default:
                return BAD;
        }
    }

    public int ack(int point) {
        noteBefore();
        return settle(now.acknowledge(point));
    }

    public int ackAll() {
        noteBefore();
        int listed = now.fillList(order);
        int acknowledged = 0;
        for (int k = 0; k < listed; k++) {
            if (!isError(now.acknowledge(order[k]))) {
                acknowledged++;
            }
        }
        return settle(acknowledged);
    }

    public int shelve(int point, int ticks) {
        noteBefore();
        return settle(now.putOnShelf(point, ticks));
    }

    public int unshelve(int point) {
        noteBefore();
        return settle(now.takeFromShelf(point));
    }

    public int list(int i) {
        if (i < 0) {
            return BAD;
        }
        int listed = now.fillList(order);
        return i < listed ? order[i] : NONE;
    }

    public int count(int what) {
        if (!isIn(what, 0, 7)) {
            return BAD;
        }
        int counted = 0;
        for (int i = 0; i < now.number; i++) {
            if (now.isCounted(i, what)) {
                counted++;
            }
        }
        return counted;
    }

    public int events() {
        return now.log.total;
    }

    public int event(int i, int what) {
        if (i < 0 || !isIn(what, 0, EVENT_NUMBERS - 1)) {
            return BAD;
        }
        if (i >= now.log.kept()) {
            return NONE;
        }
        return now.log.eventNumber(i, what);
    }

    public float meanAck() {
        if (now.acknowledgements == 0) {
            return 0;
        }
        return (float) now.ackTicks / (float) now.acknowledgements;
    }

    public int worst() {
        int found = NONE;
        int most = 0;
        for (int i = 0; i < now.number; i++) {
            int activations = now.log.activationsOf(i);
            if (activations > most) {
                found = i;
                most = activations;
            }
        }
        return found;
    }

    public int replay(int point, int deadband) {
        if (!now.hasPoint(point) || !isIn(deadband, 0, MOST_DEADBAND)) {
            return BAD;
        }
        return now.points[point].alarmsWith(deadband);
    }

    public int leastDeadband(int point, int times) {
        if (!now.hasPoint(point) || !isIn(times, 0, MOST_TIMES)) {
            return BAD;
        }
        return now.points[point].leastDeadbandFor(times);
    }

    public int type(int c) {
        if (!isIn(c, 32, 126)) {
            return BAD;
        }
        return script.append((char) c);
    }

    public int clear() {
        return script.discard();
    }

    public int run() {
        if (!script.readCommands()) {
            return -100 - script.place;
        }
        noteBefore();
        int commands = script.commands;
        for (int k = 0; k < commands; k++) {
            if (isError(carryOut(k))) {
                now.copyFrom(before);
                return -1000 - k;
            }
        }
        script.discard();
        return settle(commands);
    }

    public int undo() {
        if (pastNumber <= 0) {
            return NONE;
        }
        pastNumber--;
        State undone = now;
        now = past[pastNumber];
        past[pastNumber] = undone;
        return pastNumber;
    }

    public long fingerprint() {
        long print = 157;
        for (int what = 0; what < PLANT_NUMBERS; what++) {
            print = 31 * print + plant(what);
        }
        print = 31 * print + points();
        for (int i = 0; i < points(); i++) {
            for (int what = 0; what < POINT_NUMBERS; what++) {
                print = 31 * print + point(i, what);
            }
        }
        print = 31 * print + events();
        for (int i = 0; i < now.log.kept(); i++) {
            for (int what = 0; what < EVENT_NUMBERS; what++) {
                print = 31 * print + event(i, what);
            }
        }
        return print;
    }

    private static boolean isIn(int x, int least, int most) {
        return x >= least && x <= most;
    }

    /** No other answer of an act is as low as the errors are. */
    private static boolean isError(int answer) {
        return answer <= BAD;
    }

    private void noteBefore() {
        before.copyFrom(now);
    }

    private int settle(int answer) {
        if (!isError(answer)) {
            keepBefore();
        }
        return answer;
    }

    /** The state that falls out of the history becomes the row for the next noteBefore(). */
    private void keepBefore() {
        State kept = before;
        if (pastNumber < MOST_PAST) {
            before = past[pastNumber];
            past[pastNumber] = kept;
            pastNumber++;
            return;
        }
        before = past[0];
        for (int k = 1; k < MOST_PAST; k++) {
            past[k - 1] = past[k];
        }
        past[MOST_PAST - 1] = kept;
    }

    private int carryOut(int command) {
        int first = script.firsts[command];
        int second = script.seconds[command];
        switch (script.words[command]) {
            case SET_WORD:
                return now.changeValue(first, second);
            case ACK_WORD:
                return now.acknowledge(first);
            case SHELVE_WORD:
                return now.putOnShelf(first, second);
            case TICK_WORD:
                return now.passTicks(first);
            default:
                return now.changeMode(first);
        }
    }

    /** All that undo() restores; its acts look for errors before they change anything. */
    private static final class State {
        final Point[] points = new Point[MOST_POINTS];
        final Flood flood = new Flood();
        final Log log = new Log();
        int number;
        int time;
        int mode;
        int activations;
        int ackTicks;
        int acknowledgements;

        State() {
            for (int i = 0; i < MOST_POINTS; i++) {
                points[i] = new Point();
            }
        }

        void copyFrom(State other) {
            for (int i = 0; i < other.number; i++) {
                points[i].copyFrom(other.points[i]);
            }
            flood.copyFrom(other.flood);
            log.copyFrom(other.log);
            number = other.number;
            time = other.time;
            mode = other.mode;
            activations = other.activations;
            ackTicks = other.ackTicks;
            acknowledgements = other.acknowledgements;
        }

        boolean hasPoint(int i) {
            return isIn(i, 0, number - 1);
        }

        int addPoint(int limit, int priority) {
            if (!isIn(limit, -FARTHEST, FARTHEST) || !isIn(priority, HIGHEST_PRIORITY, 4)) {
                return BAD;
            }
            if (number >= MOST_POINTS) {
                return FULL;
            }
            points[number].begin(limit, priority);
            number++;
            return number - 1;
        }

        int changeSetting(int i, int setting, int value) {
            if (!hasPoint(i) || !isIn(setting, 0, SETTINGS - 1)
                    || !isIn(value, LEAST_SETTING[setting], MOST_SETTING[setting])) {
                return BAD;
            }
            Point p = points[i];
            int previous = p.settings[setting];
            p.settings[setting] = value;
            if (p.hasHighestPriority() && p.isShelved()) {
                endShelf(i);
            }
            return previous;
        }

        int changeRoot(int i, int root) {
            if (!hasPoint(i) || root != NO_ROOT && !hasPoint(root)) {
                return BAD;
            }
            if (isOnWayUp(i, root)) {
                return STATE;
            }
            int previous = points[i].root;
            points[i].root = root;
            return previous;
        }

        private boolean isOnWayUp(int i, int from) {
            int at = from;
            for (int step = 0; step < MOST_POINTS && hasPoint(at); step++) {
                if (at == i) {
                    return true;
                }
                at = points[at].root;
            }
            return false;
        }

        int changeValue(int i, int value) {
            if (!hasPoint(i) || !isIn(value, -FARTHEST, FARTHEST)) {
                return BAD;
            }
            int previous = points[i].value;
            points[i].value = value;
            return previous;
        }

        int changeMode(int newMode) {
            if (!isIn(newMode, 0, LAST_STATE)) {
                return BAD;
            }
            int previous = mode;
            mode = newMode;
            return previous;
        }

        int changeFlood(int window, int high, int low) {
            if (!isIn(window, 1, MOST_WINDOW) || !isIn(high, 1, MOST_HIGH)
                    || !isIn(low, 0, high)) {
                return BAD;
            }
            int previous = 10000 * flood.window + 100 * flood.high + flood.low;
            flood.window = window;
            flood.high = high;
            flood.low = low;
            return previous;
        }

        int passTicks(int ticks) {
            if (!isIn(ticks, 1, MOST_TICKS)) {
                return BAD;
            }
            if (time + ticks > LAST_TIME) {
                return STATE;
            }
            for (int k = 0; k < ticks; k++) {
                passTick();
            }
            return time;
        }

        private void passTick() {
            time++;
            flood.openTime(time);
            for (int i = 0; i < number; i++) {
                movePoint(i);
            }
            for (int i = 0; i < number; i++) {
                if (points[i].isShelved() && time >= points[i].shelfEnd) {
                    endShelf(i);
                }
            }
            lookAtFlood();
            for (int i = 0; i < number; i++) {
                points[i].putDownValue();
            }
        }

        private void movePoint(int i) {
            Point p = points[i];
            p.count = p.isTurning() ? p.count + 1 : 0;
            if (p.count <= p.delayOf(p.inAlarm)) {
                return;
            }
            p.count = 0;
            if (p.inAlarm) {
                p.inAlarm = false;
                log.write(time, ALARM_OVER, i);
            } else {
                activate(i);
            }
        }

        private void activate(int i) {
            Point p = points[i];
            p.inAlarm = true;
            p.acknowledged = false;
            p.latest = time;
            p.activations++;
            activations++;
            flood.addActivation(time);
            log.write(time, ACTIVATION, i);
        }

        private void endShelf(int i) {
            points[i].shelfEnd = 0;
            log.write(time, UNSHELVED, i);
        }

        private void lookAtFlood() {
            int rate = flood.rateAt(time);
            if (!flood.on && rate > flood.high) {
                flood.on = true;
                flood.start = time;
                log.write(time, FLOOD_BEGINS, NONE);
            } else if (flood.on && rate <= flood.low) {
                flood.on = false;
                log.write(time, FLOOD_ENDS, NONE);
            }
        }

        int acknowledge(int i) {
            if (!hasPoint(i)) {
                return BAD;
            }
            Point p = points[i];
            if (p.acknowledged) {
                return STATE;
            }
            p.acknowledged = true;
            int passed = time - p.latest;
            ackTicks += passed;
            acknowledgements++;
            log.write(time, ACKNOWLEDGED, i);
            return passed;
        }

        int putOnShelf(int i, int ticks) {
            if (!hasPoint(i) || !isIn(ticks, 1, MOST_SHELF_TICKS)) {
                return BAD;
            }
            if (points[i].hasHighestPriority()) {
                return STATE;
            }
            points[i].shelfEnd = time + ticks;
            log.write(time, SHELVED, i);
            return time + ticks;
        }

        int takeFromShelf(int i) {
            if (!hasPoint(i)) {
                return BAD;
            }
            if (!points[i].isShelved()) {
                return STATE;
            }
            int left = points[i].shelfEnd - time;
            endShelf(i);
            return left;
        }

        int pointNumber(int i, int what) {
            return what == POINT_NUMBERS - 1 ? whyHidden(i) : points[i].ownNumber(what);
        }

        private int whyHidden(int i) {
            Point p = points[i];
            if (!p.stands()) {
                return NONE;
            }
            if (p.isShelved()) {
                return BY_SHELF;
            }
            if (p.hasHighestPriority()) {
                return SHOWN;
            }
            if ((p.settings[HIDDEN_IN] >> mode & 1) == 1) {
                return BY_STATE;
            }
            if (hasRootInAlarm(p)) {
                return BY_ROOT;
            }
            return isFlooded(p) ? BY_FLOOD : SHOWN;
        }

        private boolean hasRootInAlarm(Point p) {
            int at = p.root;
            for (int step = 0; step < MOST_POINTS && hasPoint(at); step++) {
                if (points[at].inAlarm) {
                    return true;
                }
                at = points[at].root;
            }
            return false;
        }

        private boolean isFlooded(Point p) {
            return flood.on && p.latest >= flood.start
                    && p.settings[PRIORITY] >= FIRST_FLOODED_PRIORITY;
        }

        /** Returns how many places of the row the list takes. */
        int fillList(int[] row) {
            int listed = 0;
            for (int i = 0; i < number; i++) {
                if (whyHidden(i) == SHOWN) {
                    int place = listed;
                    while (place > 0 && comesBefore(i, row[place - 1])) {
                        row[place] = row[place - 1];
                        place--;
                    }
                    row[place] = i;
                    listed++;
                }
            }
            return listed;
        }

        /** Where all else is equal, a greater number never comes before a smaller one. */
        private boolean comesBefore(int i, int smaller) {
            Point p = points[i];
            Point q = points[smaller];
            if (p.settings[PRIORITY] != q.settings[PRIORITY]) {
                return p.settings[PRIORITY] < q.settings[PRIORITY];
            }
            if (p.acknowledged != q.acknowledged) {
                return q.acknowledged;
            }
            return p.latest < q.latest;
        }

        boolean isCounted(int i, int what) {
            switch (what) {
                case 0:
                    return points[i].stands();
                case 6:
                    return points[i].isShelved();
                case 7:
                    return !points[i].acknowledged;
                default:
                    return whyHidden(i) == what - 1;
            }
        }
    }

    private static final class Point {
        final int[] settings = new int[SETTINGS];
        final int[] values = new int[VALUES_KEPT];
        int valuesPutDown;
        int value;
        int root;
        boolean inAlarm;
        boolean acknowledged;
        int count;
        int latest;
        int shelfEnd;
        int activations;

        /** Sets every field: the row may hold a point that undo() took away. */
        void begin(int limit, int priority) {
            for (int k = 0; k < SETTINGS; k++) {
                settings[k] = 0;
            }
            settings[LIMIT] = limit;
            settings[PRIORITY] = priority;
            valuesPutDown = 0;
            value = 0;
            root = NO_ROOT;
            inAlarm = false;
            acknowledged = true;
            count = 0;
            latest = 0;
            shelfEnd = 0;
            activations = 0;
        }

        void copyFrom(Point other) {
            System.arraycopy(other.settings, 0, settings, 0, SETTINGS);
            System.arraycopy(other.values, 0, values, 0, VALUES_KEPT);
            valuesPutDown = other.valuesPutDown;
            value = other.value;
            root = other.root;
            inAlarm = other.inAlarm;
            acknowledged = other.acknowledged;
            count = other.count;
            latest = other.latest;
            shelfEnd = other.shelfEnd;
            activations = other.activations;
        }

        boolean stands() {
            return inAlarm || !acknowledged;
        }

        boolean isShelved() {
            return shelfEnd > 0;
        }

        boolean hasHighestPriority() {
            return settings[PRIORITY] == HIGHEST_PRIORITY;
        }

        boolean isTurning() {
            return inAlarm ? isClear(value, settings[DEADBAND]) : isOver(value);
        }

        int delayOf(boolean alarm) {
            return alarm ? settings[DELAY_OFF] : settings[DELAY_ON];
        }

        private boolean isOver(int v) {
            return settings[KIND] == HIGH_KIND ? v >= settings[LIMIT] : v <= settings[LIMIT];
        }

        /** With the deadband 0 this is just what isOver() is not. */
        private boolean isClear(int v, int deadband) {
            return settings[KIND] == HIGH_KIND
                    ? v < settings[LIMIT] - deadband
                    : v > settings[LIMIT] + deadband;
        }

        void putDownValue() {
            values[valuesPutDown % VALUES_KEPT] = value;
            valuesPutDown++;
        }

        int ownNumber(int what) {
            switch (what) {
                case 7:
                    return value;
                case 8:
                    return root;
                case 9:
                    return inAlarm ? 1 : 0;
                case 10:
                    return acknowledged ? 1 : 0;
                case 11:
                    return count;
                case 12:
                    return latest;
                case 13:
                    return shelfEnd;
                case 14:
                    return activations;
                default:
                    return isIn(what, 0, SETTINGS - 1) ? settings[what] : BAD;
            }
        }

        int alarmsWith(int deadband) {
            int oldest = valuesPutDown > VALUES_KEPT ? valuesPutDown - VALUES_KEPT : 0;
            boolean alarm = false;
            int counted = 0;
            int alarms = 0;
            for (int k = oldest; k < valuesPutDown; k++) {
                int v = values[k % VALUES_KEPT];
                boolean turning = alarm ? isClear(v, deadband) : isOver(v);
                counted = turning ? counted + 1 : 0;
                if (counted > delayOf(alarm)) {
                    counted = 0;
                    alarm = !alarm;
                    alarms += alarm ? 1 : 0;
                }
            }
            return alarms;
        }

        /**
         * Halves the range, since a greater deadband never makes more alarms: an alarm ends no
         * earlier with it, and it ends at a value that is not over, so that from there on both
         * deadbands count towards the next alarm alike.
         */
        int leastDeadbandFor(int times) {
            if (alarmsWith(MOST_DEADBAND) > times) {
                return NONE;
            }
            int least = 0;
            int enough = MOST_DEADBAND;
            for (int step = 0; step < MOST_DEADBAND && least < enough; step++) {
                int middle = (least + enough) / 2;
                if (alarmsWith(middle) > times) {
                    least = middle + 1;
                } else {
                    enough = middle;
                }
            }
            return enough;
        }
    }

    private static final class Flood {
        /** Ticks farther back than the greatest window are never looked at. */
        final int[] activationsAt = new int[MOST_WINDOW];
        int window = 10;
        int high = 5;
        int low = 2;
        boolean on;
        int start;

        void copyFrom(Flood other) {
            System.arraycopy(other.activationsAt, 0, activationsAt, 0, MOST_WINDOW);
            window = other.window;
            high = other.high;
            low = other.low;
            on = other.on;
            start = other.start;
        }

        void openTime(int time) {
            activationsAt[Math.floorMod(time, MOST_WINDOW)] = 0;
        }

        void addActivation(int time) {
            activationsAt[Math.floorMod(time, MOST_WINDOW)]++;
        }

        int rateAt(int time) {
            int rate = 0;
            for (int back = 0; back < window && back < time; back++) {
                rate += activationsAt[Math.floorMod(time - back, MOST_WINDOW)];
            }
            return rate;
        }
    }

    /** The events: their number, and the latest ones in rings. */
    private static final class Log {
        final int[] times = new int[EVENTS_KEPT];
        final int[] kinds = new int[EVENTS_KEPT];
        final int[] owners = new int[EVENTS_KEPT];
        int total;

        void copyFrom(Log other) {
            System.arraycopy(other.times, 0, times, 0, EVENTS_KEPT);
            System.arraycopy(other.kinds, 0, kinds, 0, EVENTS_KEPT);
            System.arraycopy(other.owners, 0, owners, 0, EVENTS_KEPT);
            total = other.total;
        }

        void write(int time, int kind, int owner) {
            int at = Math.floorMod(total, EVENTS_KEPT);
            times[at] = time;
            kinds[at] = kind;
            owners[at] = owner;
            total++;
        }

        int kept() {
            return Math.min(total, EVENTS_KEPT);
        }

        int eventNumber(int i, int what) {
            int at = Math.floorMod(total - 1 - i, EVENTS_KEPT);
            if (what == 0) {
                return times[at];
            }
            return what == 1 ? kinds[at] : owners[at];
        }

        int activationsOf(int owner) {
            int found = 0;
            for (int at = 0; at < kept(); at++) {
                if (kinds[at] == ACTIVATION && owners[at] == owner) {
                    found++;
                }
            }
            return found;
        }
    }

    /** The buffer, and the rows of the commands that were read from it last. */
    private static final class Script {
        private static final int MOST_SIGNS = 80;
        private static final int MOST_DIGITS = 5;
        /** The shortest command takes five signs, and one more for the ";" before the next. */
        private static final int MOST_COMMANDS = 14;

        final char[] text = new char[MOST_SIGNS];
        final int[] words = new int[MOST_COMMANDS];
        final int[] firsts = new int[MOST_COMMANDS];
        final int[] seconds = new int[MOST_COMMANDS];
        int length;
        int commands;
        int place;
        int readValue;

        int append(char c) {
            if (length >= MOST_SIGNS) {
                return FULL;
            }
            text[length] = c;
            length++;
            return length;
        }

        int discard() {
            int had = length;
            length = 0;
            return had;
        }

        /** Where this or a part of it answers false, place is the error place. */
        boolean readCommands() {
            place = 0;
            commands = 0;
            for (int k = 0; k < MOST_COMMANDS; k++) {
                if (!readCommand(k)) {
                    return false;
                }
                commands++;
                if (place == length) {
                    return true;
                }
                if (!readSign(';')) {
                    return false;
                }
            }
            return false;
        }

        private boolean readCommand(int k) {
            int word = readWord();
            if (word == NONE || !readNumber()) {
                return false;
            }
            words[k] = word;
            firsts[k] = readValue;
            seconds[k] = 0;
            if (word == SET_WORD) {
                return readSign('=') && readSecond(k, readSign('-'));
            }
            return word != SHELVE_WORD || readSign(':') && readSecond(k, false);
        }

        private boolean readSecond(int k, boolean negative) {
            if (!readNumber()) {
                return false;
            }
            seconds[k] = negative ? -readValue : readValue;
            return true;
        }

        /** Goes as far as any of the words, with the blank behind it, goes with the text. */
        private int readWord() {
            int farthest = 0;
            for (int word = 0; word < WORDS; word++) {
                String due = wordText(word);
                int matched = matchedSigns(due);
                if (matched == due.length()) {
                    place += matched;
                    return word;
                }
                farthest = Math.max(farthest, matched);
            }
            place += farthest;
            return NONE;
        }

        private int matchedSigns(String due) {
            int matched = 0;
            while (matched < due.length() && place + matched < length
                    && text[place + matched] == due.charAt(matched)) {
                matched++;
            }
            return matched;
        }

        private static String wordText(int word) {
            switch (word) {
                case SET_WORD:
                    return "set ";
                case ACK_WORD:
                    return "ack ";
                case SHELVE_WORD:
                    return "shelve ";
                case TICK_WORD:
                    return "tick ";
                default:
                    return "state ";
            }
        }

        private boolean readNumber() {
            int digits = 0;
            readValue = 0;
            while (digits < MOST_DIGITS && place < length && isIn(text[place], '0', '9')) {
                readValue = 10 * readValue + text[place] - '0';
                place++;
                digits++;
            }
            return digits > 0;
        }

        private boolean readSign(char due) {
            if (place < length && text[place] == due) {
                place++;
                return true;
            }
            return false;
        }
    }
}
