import java.util.Arrays;
import java.util.LinkedHashMap;
import java.util.List;
import java.util.Map;
import java.util.Objects;

/** What the tests share: answers are compared, counted, and told with their promise if wrong. */
final class Check {

    interface Maker {
        Desk make();
    }

    interface Call {
        long on(Desk desk);
    }

    interface NumberCall {
        long on(Desk desk, int number);
    }

    private static final int HISTORY = 4;

    private static String promise = "";
    private static int right;
    private static int wrong;

    private Check() {
    }

    /** Says which promise the checks from here on belong to. */
    static void promise(int number, String name) {
        about("Promise " + number + " (" + name + ")");
    }

    static void about(String what) {
        promise = what + ": ";
    }

    static void due(String call, double got, double want) {
        tell(got == want, call, String.valueOf(got), String.valueOf(want));
    }

    static void due(String call, long got, long want) {
        tell(got == want, call, String.valueOf(got), String.valueOf(want));
    }

    private static void tell(boolean same, String call, String got, String want) {
        if (same) {
            right++;
            return;
        }
        wrong++;
        System.out.println(promise + call + " answered " + got + ", due is " + want);
    }

    /** The call answers with the error, and no later call shows that it was made. */
    static void refused(String call, long error, Maker maker, Call made) {
        Desk desk = maker.make();
        due(call, made.on(desk), error);
        sameFromNowOn("after the refused " + call, desk, maker.make());
        Desk again = maker.make();
        made.on(again);
        samePast("after the refused " + call, again, maker.make(), HISTORY);
    }

    /** The next numbers outside the range, and the farthest ones, are refused with BAD. */
    static void outside(String call, int least, int most, Maker maker, NumberCall made) {
        for (int x : new int[] {least - 1, most + 1, Integer.MIN_VALUE, Integer.MAX_VALUE}) {
            refused(call + " of " + x, AlarmDesk.BAD, maker, desk -> made.on(desk, x));
        }
    }

    /** No point has the number, on desks with no point, with some, and with all points. */
    static void outsideThePoints(String call, NumberCall made) {
        outside(call + " with five points,", 0, 4, Desks::busy, made);
        outside(call + " with 16 points,", 0, 15, Desks::full, made);
        outside(call + " without points,", 0, -1, Desks::fresh, made);
    }

    /** The call answers so and is one act: undo() takes just it back. */
    static void oneAct(String call, long want, Maker maker, Call made) {
        int states = statesOf(maker.make());
        int left = Math.min(states, HISTORY - 1);
        Desk desk = maker.make();
        due(call, made.on(desk), want);
        due("undo() of " + call, desk.undo(), left);
        sameFromNowOn("after " + call + " and undo()", desk, maker.make());
        Desk again = maker.make();
        made.on(again);
        again.undo();
        samePast("after " + call + " and undo()", again, maker.make(), left);
        due("undo() of no act", again.undo(), AlarmDesk.NONE);
    }

    /** The call changes just these of the numbers of the plant and of the points that there are. */
    static void changesOnly(String call, Maker maker, Call made, String... due) {
        Desk desk = maker.make();
        int points = desk.points();
        made.on(desk);
        Map<String, Number> after = numbers(desk, points);
        Map<String, Number> before = numbers(maker.make(), points);
        List<String> changes = Arrays.asList(due);
        for (String number : before.keySet()) {
            boolean changed = !Objects.equals(before.get(number), after.get(number));
            String does = changes.contains(number) ? " changes " : " leaves ";
            due(call + does + number, changed ? 1 : 0, changes.contains(number) ? 1 : 0);
        }
        due("known numbers of " + call, before.keySet().containsAll(changes) ? 1 : 0, 1);
    }

    private static Map<String, Number> numbers(Desk desk, int points) {
        Map<String, Number> numbers = new LinkedHashMap<>();
        for (int what = 0; what <= 4; what++) {
            numbers.put("plant(" + what + ")", desk.plant(what));
        }
        numbers.put("points()", desk.points());
        for (int k = 0; k < points; k++) {
            for (int what = 0; what <= 15; what++) {
                numbers.put("point(" + k + ", " + what + ")", desk.point(k, what));
            }
            numbers.put("replay(" + k + ")", desk.replay(k, 0));
        }
        numbers.put("events()", desk.events());
        numbers.put("meanAck()", desk.meanAck());
        return numbers;
    }

    /** How many states the history of the desk has; none is left then. */
    static int statesOf(Desk desk) {
        int states = 0;
        while (desk.undo() != AlarmDesk.NONE) {
            states++;
        }
        return states;
    }

    /** The two desks answer alike to all that looks, and to some acts. */
    static void sameFromNowOn(String when, Desk desk, Desk twin) {
        sameLooks(when, desk, twin);
        due("run() " + when, desk.run(), twin.run());
        due("clear() " + when, desk.clear(), twin.clear());
        due("setFlood() " + when, desk.setFlood(60, 50, 0), twin.setFlood(60, 50, 0));
        due("the rate " + when, desk.plant(3), twin.plant(3));
        due("tick() " + when, desk.tick(1), twin.tick(1));
        due("ackAll() " + when, desk.ackAll(), twin.ackAll());
        sameLooks("later " + when, desk, twin);
    }

    private static void sameLooks(String when, Desk desk, Desk twin) {
        due("fingerprint() " + when, desk.fingerprint(), twin.fingerprint());
        due("meanAck() " + when, desk.meanAck(), twin.meanAck());
        int points = twin.points();
        for (int k = 0; k < points; k++) {
            due("list() " + when, desk.list(k), twin.list(k));
            due("replay() " + when, desk.replay(k, 0), twin.replay(k, 0));
            due("leastDeadband() " + when, desk.leastDeadband(k, 1), twin.leastDeadband(k, 1));
        }
    }

    /** So many states of the histories are the same; of the twin's there may be one more. */
    private static void samePast(String when, Desk desk, Desk twin, int states) {
        for (int k = 0; k < states; k++) {
            int twins = twin.undo();
            int due = twins == AlarmDesk.NONE ? twins : Math.min(twins, states - 1 - k);
            due("undo() " + when, desk.undo(), due);
            due("fingerprint() then, " + when, desk.fingerprint(), twin.fingerprint());
            due("meanAck() then, " + when, desk.meanAck(), twin.meanAck());
        }
    }

    /** The latest event, as a call of event() for each of its numbers. */
    static void latestEvent(Desk desk, String after, int time, int kind, int point) {
        eventIs(desk, after, 0, time, kind, point);
    }

    static void eventIs(Desk desk, String after, int i, int time, int kind, int point) {
        due("event(" + i + ", 0) after " + after, desk.event(i, 0), time);
        due("event(" + i + ", 1) after " + after, desk.event(i, 1), kind);
        due("event(" + i + ", 2) after " + after, desk.event(i, 2), point);
    }

    static void end() {
        System.out.println(right + " passed, " + wrong + " failed");
        if (wrong != 0 || right == 0) {
            System.exit(1);
        }
    }
}
