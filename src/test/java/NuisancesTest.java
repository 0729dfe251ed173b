/** Promises 22 and 23: replay, leastDeadband. */
public final class NuisancesTest {

    public static void main(String[] args) {
        replayed();
        replayedWithDelays();
        replayedLow();
        replayOfLatestValues();
        replayRefused();
        least();
        leastOfNone();
        leastRefused();
        Check.end();
    }

    private static AlarmDesk deskWithValues(int limit, int... values) {
        AlarmDesk desk = new AlarmDesk();
        desk.add(limit, 2);
        for (int value : values) {
            desk.setValue(0, value);
            desk.tick(1);
        }
        return desk;
    }

    private static void replayed() {
        AlarmDesk desk = deskWithValues(10, 10, 9, 10, 8, 12, 5, 10);
        Check.due("replay(0, 0)", desk.replay(0, 0), 4);
        Check.due("replay(0, 1)", desk.replay(0, 1), 3);
        Check.due("replay(0, 2)", desk.replay(0, 2), 2);
        Check.due("replay(0, 4)", desk.replay(0, 4), 2);
        Check.due("replay(0, 5)", desk.replay(0, 5), 1);
        Check.due("replay(0, 1000)", desk.replay(0, 1000), 1);
        desk.set(0, 2, 50);
        Check.due("its own deadband does not count", desk.replay(0, 0), 4);
        desk.set(0, 1, 12);
        Check.due("its other settings do", desk.replay(0, 0), 1);
        Check.due("a value that is not put down", desk.setValue(0, 12), 10);
        Check.due("does not count", desk.replay(0, 0), 1);
    }

    private static void replayedWithDelays() {
        AlarmDesk desk = deskWithValues(5, 5, 5, 0, 5, 5, 5, 0, 5, 0, 0, 5, 5, 5);
        Check.due("without delays", desk.replay(0, 0), 4);
        desk.set(0, 3, 2);
        Check.due("with the delay on 2", desk.replay(0, 0), 2);
        desk.set(0, 4, 1);
        Check.due("with the delay off 1", desk.replay(0, 0), 2);
        desk.set(0, 4, 2);
        Check.due("with the delay off 2", desk.replay(0, 0), 1);
        desk.set(0, 3, 3);
        Check.due("with the delay on 3", desk.replay(0, 0), 0);
        AlarmDesk ends = deskWithValues(5, 5, 0, 0, 5, 0, 0, 0, 5, 5);
        ends.set(0, 4, 2);
        Check.due("the count begins anew in alarm", ends.replay(0, 0), 2);
        ends.set(0, 4, 0);
        ends.set(0, 3, 1);
        Check.due("the count begins anew after an alarm", ends.replay(0, 0), 1);
    }

    private static void replayedLow() {
        AlarmDesk desk = deskWithValues(-5, -5, -4, -5, -3, -6);
        Check.due("as a high one", desk.replay(0, 0), 1);
        desk.set(0, 0, 1);
        Check.due("as a low one", desk.replay(0, 0), 3);
        Check.due("as a low one, 1", desk.replay(0, 1), 2);
        Check.due("as a low one, 2", desk.replay(0, 2), 1);
    }

    private static void replayOfLatestValues() {
        AlarmDesk desk = new AlarmDesk();
        desk.add(1, 2);
        Check.due("without values", desk.replay(0, 0), 0);
        for (int k = 0; k < 20; k++) {
            desk.setValue(0, 1);
            desk.tick(1);
            desk.setValue(0, 0);
            desk.tick(1);
        }
        Check.due("of 40 values", desk.replay(0, 0), 20);
        desk.tick(1);
        Check.due("the oldest one is not kept", desk.replay(0, 0), 19);
        desk.undo();
        Check.due("after undo", desk.replay(0, 0), 20);
        desk.tick(38);
        Check.due("one of them is kept", desk.replay(0, 0), 1);
        desk.tick(1);
        Check.due("none is kept", desk.replay(0, 0), 0);
        desk.add(0, 2);
        desk.tick(3);
        Check.due("a later point", desk.replay(1, 0), 1);
        desk.set(1, 3, 2);
        Check.due("has three values", desk.replay(1, 0), 1);
        desk.set(1, 3, 3);
        Check.due("and not four", desk.replay(1, 0), 0);
    }

    private static void replayRefused() {
        AlarmDesk desk = deskWithValues(0, 0);
        Check.refused(desk, "replay(1, 0)", AlarmDesk.BAD, () -> desk.replay(1, 0));
        Check.refused(desk, "replay(-1, 0)", AlarmDesk.BAD, () -> desk.replay(-1, 0));
        Check.refused(desk, "replay(0, -1)", AlarmDesk.BAD, () -> desk.replay(0, -1));
        Check.refused(desk, "replay(0, 1001)", AlarmDesk.BAD, () -> desk.replay(0, 1001));
        Check.history(desk, "add, setValue, tick", 3);
    }

    private static void least() {
        AlarmDesk desk = deskWithValues(10, 10, 9, 10, 8, 12, 5, 10, -990, 10);
        int[] due = {AlarmDesk.NONE, 1000, 5, 2, 1, 0, 0};
        for (int times = 0; times < due.length; times++) {
            Check.due("leastDeadband(0, " + times + ")", desk.leastDeadband(0, times), due[times]);
        }
        Check.due("leastDeadband(0, 40)", desk.leastDeadband(0, 40), 0);
        for (int times = 0; times < due.length; times++) {
            Check.due("by each deadband, " + times, desk.leastDeadband(0, times),
                    byEachDeadband(desk, times));
        }
    }

    private static int byEachDeadband(AlarmDesk desk, int times) {
        for (int deadband = 0; deadband <= 1000; deadband++) {
            if (desk.replay(0, deadband) <= times) {
                return deadband;
            }
        }
        return AlarmDesk.NONE;
    }

    private static void leastOfNone() {
        AlarmDesk desk = deskWithValues(10, 10, -991, 10);
        Check.due("leastDeadband(0, 1)", desk.leastDeadband(0, 1), AlarmDesk.NONE);
        Check.due("leastDeadband(0, 2)", desk.leastDeadband(0, 2), 0);
        desk.add(10, 2);
        Check.due("without values", desk.leastDeadband(1, 0), 0);
    }

    private static void leastRefused() {
        AlarmDesk desk = deskWithValues(0, 0);
        Check.refused(desk, "least(1, 0)", AlarmDesk.BAD, () -> desk.leastDeadband(1, 0));
        Check.refused(desk, "least(-1, 0)", AlarmDesk.BAD, () -> desk.leastDeadband(-1, 0));
        Check.refused(desk, "least(0, -1)", AlarmDesk.BAD, () -> desk.leastDeadband(0, -1));
        Check.refused(desk, "least(0, 41)", AlarmDesk.BAD, () -> desk.leastDeadband(0, 41));
    }
}
