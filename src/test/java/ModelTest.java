/**
 * All promises: long runs of calls, drawn by a fixed rule, on a desk and on the model; each
 * answer and each fingerprint must be the same.
 */
public final class ModelTest {

    private static final int RUNS = 1500;
    /** A script and what looks at it, then the calls at the end. */
    private static final int MOST_CALLS_OF_A_STEP = 120;

    private final Draw draw;
    private final int run;
    private final Desk desk = new Desk();
    private final ModelDesk model = new ModelDesk();

    private ModelTest(int run) {
        this.run = run;
        draw = new Draw(run);
    }

    /** A row of numbers that is always the same for the same seed. */
    private static final class Draw {
        private long state;

        Draw(int seed) {
            state = seed * 0x9E3779B97F4A7C15L + 12345;
            below(2);
            below(2);
        }

        int below(int bound) {
            state = state * 6364136223846793005L + 1442695040888963407L;
            return (int) ((state >>> 33) % bound);
        }

        int from(int least, int most) {
            return least + below(most - least + 1);
        }

        boolean oneIn(int n) {
            return below(n) == 0;
        }

        int anyOf(int... numbers) {
            return numbers[below(numbers.length)];
        }
    }

    public static void main(String[] args) {
        Check.about("Promises 1 to 28");
        for (int run = 0; run < RUNS; run++) {
            new ModelTest(run).calls();
        }
        Check.end();
    }

    private void calls() {
        int points = draw.anyOf(1, 2, 3, 5, 8, 14);
        for (int k = 0; k < points; k++) {
            add();
        }
        while (desk.callsLeft() >= MOST_CALLS_OF_A_STEP) {
            boolean act = call();
            if (act && draw.oneIn(4)) {
                due("fingerprint()", desk.fingerprint(), model.fingerprint());
            }
        }
        for (int k = 0; k < 5; k++) {
            due("fingerprint()", desk.fingerprint(), model.fingerprint());
            due("meanAck", desk.meanAck(), model.meanAck());
            due("last undo()", desk.undo(), model.undo());
        }
    }

    private void due(String call, double got, double want) {
        Check.due("run " + run + ": " + call, got, want);
    }

    private void due(String call, long got, long want) {
        Check.due("run " + run + ": " + call, got, want);
    }

    private int point() {
        return draw.oneIn(60) ? draw.anyOf(-1, 16, 99, model.points())
                : draw.below(Math.max(1, model.points()));
    }

    private int value() {
        return draw.oneIn(50) ? draw.anyOf(-10001, -10000, 10000, 10001) : draw.from(-6, 6);
    }

    private boolean call() {
        int kind = draw.below(run % 3 == 0 ? 60 : 44);
        if (kind < 18) {
            act(kind);
            return true;
        }
        if (kind < 34) {
            look(kind - 18);
            return false;
        }
        if (kind < 37) {
            script();
            return true;
        }
        if (kind == 37 && draw.oneIn(2)) {
            due("undo()", desk.undo(), model.undo());
            return true;
        }
        int ticks = draw.oneIn(40) ? draw.anyOf(0, 100, 101, 60) : draw.from(1, 3);
        int point = point();
        int value = value();
        due("setValue " + point + " " + value, desk.setValue(point, value),
                model.setValue(point, value));
        due("tick " + ticks, desk.tick(ticks), model.tick(ticks));
        return true;
    }

    private void add() {
        int limit = value();
        int priority = draw.oneIn(30) ? draw.anyOf(0, 5) : draw.from(1, 4);
        due("add " + limit + " " + priority, desk.add(limit, priority), model.add(limit, priority));
    }

    private void act(int kind) {
        int point = point();
        switch (kind) {
            case 0:
                if (draw.oneIn(3)) {
                    add();
                }
                break;
            case 1:
            case 2:
            case 3:
                int setting = draw.oneIn(40) ? draw.anyOf(-1, 7) : draw.below(7);
                int number = setting(setting);
                due("set " + point + " " + setting + " " + number,
                        desk.set(point, setting, number), model.set(point, setting, number));
                break;
            case 4:
            case 5:
                int root = draw.oneIn(3) ? -1 : draw.oneIn(20) ? -2 : point();
                due("setRoot " + point + " " + root, desk.setRoot(point, root),
                        model.setRoot(point, root));
                break;
            case 6:
            case 7:
            case 8:
                int value = value();
                due("setValue " + point + " " + value, desk.setValue(point, value),
                        model.setValue(point, value));
                break;
            case 9:
                int state = draw.from(-1, 4);
                due("setState " + state, desk.setState(state), model.setState(state));
                break;
            case 10:
                int window = draw.oneIn(5) ? draw.anyOf(0, 1, 60, 61) : draw.from(1, 12);
                int high = draw.oneIn(9) ? draw.anyOf(0, 50, 51) : draw.from(1, 6);
                int low = draw.oneIn(9) ? draw.anyOf(-1, high, high + 1) : draw.below(high + 1);
                due("setFlood", desk.setFlood(window, high, low),
                        model.setFlood(window, high, low));
                break;
            case 11:
            case 12:
                int ticks = draw.oneIn(20) ? draw.anyOf(-1, 0, 100, 101) : draw.from(1, 5);
                due("tick " + ticks, desk.tick(ticks), model.tick(ticks));
                break;
            case 13:
            case 14:
                due("ack " + point, desk.ack(point), model.ack(point));
                break;
            case 15:
                if (draw.oneIn(3)) {
                    due("ackAll", desk.ackAll(), model.ackAll());
                }
                break;
            case 16:
                int shelf = draw.oneIn(9) ? draw.anyOf(0, 1000, 1001) : draw.from(1, 9);
                due("shelve " + point + " " + shelf, desk.shelve(point, shelf),
                        model.shelve(point, shelf));
                break;
            default:
                due("unshelve " + point, desk.unshelve(point), model.unshelve(point));
                break;
        }
    }

    private int setting(int setting) {
        switch (setting) {
            case 1:
                return value();
            case 2:
                return draw.oneIn(9) ? draw.anyOf(-1, 1000, 1001) : draw.below(6);
            case 3:
            case 4:
                return draw.oneIn(9) ? draw.anyOf(-1, 20, 21) : draw.below(4);
            case 6:
                return draw.from(-1, 16);
            default:
                return draw.from(0, draw.anyOf(1, 5));
        }
    }

    private void look(int kind) {
        int point = point();
        int what = draw.from(-1, 16);
        int i = draw.oneIn(4) ? draw.from(-1, 32) : draw.below(5);
        switch (kind) {
            case 0:
                due("point", desk.point(point, what), model.point(point, what));
                break;
            case 1:
                due("points", desk.points(), model.points());
                break;
            case 2:
            case 3:
                due("plant " + (i - 1), desk.plant(i - 1), model.plant(i - 1));
                break;
            case 4:
            case 5:
            case 6:
                due("list " + i, desk.list(i), model.list(i));
                break;
            case 7:
            case 8:
                due("count " + (what / 2), desk.count(what / 2), model.count(what / 2));
                break;
            case 9:
                due("events", desk.events(), model.events());
                due("event", desk.event(i, what % 4), model.event(i, what % 4));
                break;
            case 10:
                due("meanAck", desk.meanAck(), model.meanAck());
                break;
            case 11:
                due("worst", desk.worst(), model.worst());
                break;
            case 12:
            case 13:
                int deadband = draw.oneIn(9) ? draw.anyOf(-1, 1000, 1001) : draw.below(12);
                due("replay", desk.replay(point, deadband), model.replay(point, deadband));
                break;
            default:
                int times = draw.oneIn(9) ? draw.anyOf(-1, 40, 41) : draw.below(6);
                due("leastDeadband", desk.leastDeadband(point, times),
                        model.leastDeadband(point, times));
                break;
        }
    }

    private void script() {
        if (!draw.oneIn(5)) {
            due("clear", desk.clear(), model.clear());
        }
        StringBuilder text = new StringBuilder();
        int commands = draw.from(1, 6);
        for (int k = 0; k < commands; k++) {
            text.append(k == 0 ? "" : ";").append(command());
        }
        if (draw.oneIn(4)) {
            damage(text);
        }
        for (int k = 0; k < text.length(); k++) {
            due("type", desk.type(text.charAt(k)), model.type(text.charAt(k)));
        }
        due("run of " + text, desk.run(), model.run());
    }

    private String command() {
        switch (draw.below(5)) {
            case 0:
                return "set " + point(0) + "=" + value();
            case 1:
                return "ack " + point(0);
            case 2:
                return "shelve " + point(0) + ":" + draw.from(draw.oneIn(9) ? 0 : 1, 9);
            case 3:
                return "tick " + draw.from(draw.oneIn(9) ? 0 : 1, 4);
            default:
                return "state " + draw.below(draw.oneIn(9) ? 5 : 4);
        }
    }

    private String point(int zeros) {
        int point = draw.below(Math.max(1, model.points() + (draw.oneIn(9) ? 2 : zeros)));
        return draw.oneIn(9) ? "00" + point : "" + point;
    }

    private void damage(StringBuilder text) {
        int at = draw.below(text.length());
        switch (draw.below(3)) {
            case 0:
                text.setLength(at);
                break;
            case 1:
                text.insert(at, "set=ack:; -0123tickhlvx".charAt(draw.below(23)));
                break;
            default:
                text.deleteCharAt(at);
                break;
        }
    }
}
