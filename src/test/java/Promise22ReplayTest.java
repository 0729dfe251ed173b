/** Promise 22: replay. */
public final class Promise22ReplayTest {

    public static void main(String[] args) {
        Check.promise(22, "replay");
        outsideTheRanges();
        withoutValues();
        byDeadbands();
        leastAndMostDeadband();
        byDelays();
        delaysAreCountedAnew();
        lowPoint();
        presentSettings();
        beginsNotInAlarm();
        fortyValues();
        oldestValueOpensTheCount();
        valuesBeforeUndo();
        pointsApart();
        Check.end();
    }

    private static Desk withValues(int limit, int... values) {
        Desk desk = new Desk();
        desk.add(limit, 2);
        Desks.tickValues(desk, 0, values);
        return desk;
    }

    private static void outsideTheRanges() {
        Check.outsideThePoints("replay() of the point", (d, x) -> d.replay(x, 0));
        Check.outside("replay() with the deadband", 0, 1000, Desks::busy, (d, x) -> d.replay(4, x));
        Check.refused("replay(5, 1001)", AlarmDesk.BAD, Desks::busy, d -> d.replay(5, 1001));
    }

    private static void withoutValues() {
        Desk desk = Desks.withPoints(1);
        desk.setValue(0, 100);
        Check.due("replay(0, 0) before a tick", desk.replay(0, 0), 0);
        Check.due("replay(0, 1000) before a tick", desk.replay(0, 1000), 0);
        desk.tick(1);
        Check.due("replay(0, 0) of one value", desk.replay(0, 0), 1);
        Check.due("replay(0, 1000) of one value", desk.replay(0, 1000), 1);
    }

    private static void byDeadbands() {
        Desk desk = withValues(10, 10, 9, 10, 8, 12, 5, 10);
        int[] due = {4, 3, 2, 2, 2, 1, 1};
        for (int deadband = 0; deadband < due.length; deadband++) {
            Check.due("replay(0, " + deadband + ")", desk.replay(0, deadband), due[deadband]);
        }
        desk.set(0, 2, 50);
        Check.due("its own deadband does not count", desk.replay(0, 0), 4);
        desk.set(0, 2, 0);
        Check.due("its own deadband does not count", desk.replay(0, 5), 1);
    }

    private static void leastAndMostDeadband() {
        Desk desk = withValues(10, 10, -990, 10, -991, 10);
        Check.due("replay(0, 0)", desk.replay(0, 0), 3);
        Check.due("replay(0, 999)", desk.replay(0, 999), 3);
        Check.due("replay(0, 1000)", desk.replay(0, 1000), 2);
    }

    private static void byDelays() {
        Desk desk = withValues(5, 5, 5, 0, 5, 5, 5, 0, 5, 0, 0, 5, 5, 5);
        int[] delays = {0, 0, 1, 0, 2, 0, 2, 1, 2, 2, 3, 0, 0, 1, 0, 2, 1, 1, 1, 2};
        int[] due = {4, 3, 2, 2, 1, 0, 2, 1, 2, 1};
        for (int k = 0; k < due.length; k++) {
            desk.set(0, 3, delays[2 * k]);
            desk.set(0, 4, delays[2 * k + 1]);
            Check.due("replay(0, 0) with the delays " + delays[2 * k] + " and "
                    + delays[2 * k + 1], desk.replay(0, 0), due[k]);
        }
    }

    private static void delaysAreCountedAnew() {
        Desk inAlarm = withValues(5, 5, 5, 0, 5, 5);
        inAlarm.set(0, 3, 1);
        inAlarm.set(0, 4, 2);
        Check.due("the count begins anew in alarm", inAlarm.replay(0, 0), 1);
        Desk afterIt = withValues(5, 5, 5, 0, 5, 0);
        afterIt.set(0, 3, 1);
        Check.due("the count begins anew after an alarm", afterIt.replay(0, 0), 1);
        Desk apart = withValues(5, 5, 0, 0, 5, 0, 0, 0, 5);
        apart.set(0, 4, 2);
        Check.due("the count begins anew behind a value that is not clear", apart.replay(0, 0), 2);
        Desk longest = new Desk();
        longest.add(5, 2);
        longest.setValue(0, 5);
        longest.tick(20);
        longest.set(0, 3, 20);
        Check.due("20 values with the delay 20", longest.replay(0, 0), 0);
        longest.tick(1);
        Check.due("21 values with the delay 20", longest.replay(0, 0), 1);
    }

    private static void lowPoint() {
        Desk desk = withValues(-5, -5, -4, -5, -3, -6);
        Check.due("as a high one", desk.replay(0, 0), 1);
        desk.set(0, 0, 1);
        int[] due = {3, 2, 1, 1};
        for (int deadband = 0; deadband < due.length; deadband++) {
            Check.due("as a low one, " + deadband, desk.replay(0, deadband), due[deadband]);
        }
    }

    private static void presentSettings() {
        Desk desk = withValues(10, 10, 9, 10, 8, 12, 5, 10);
        desk.set(0, 1, 12);
        Check.due("with the limit 12", desk.replay(0, 0), 1);
        desk.set(0, 1, 13);
        Check.due("with the limit 13", desk.replay(0, 0), 0);
        desk.set(0, 1, 5);
        Check.due("with the limit 5", desk.replay(0, 0), 1);
        desk.set(0, 5, 1);
        desk.set(0, 6, 15);
        desk.add(0, 1);
        desk.setRoot(0, 1);
        Check.due("hiding does not count", desk.replay(0, 0), 1);
    }

    private static void beginsNotInAlarm() {
        Desk desk = withValues(10, 10);
        desk.tick(39);
        desk.tick(5);
        Check.due("in alarm since long", desk.point(0, 14), 1);
        Check.due("replay() comes into alarm anew", desk.replay(0, 0), 1);
        Desk counting = Desks.withPoints(1);
        counting.set(0, 3, 20);
        counting.setValue(0, 100);
        counting.tick(15);
        Check.due("the count", counting.point(0, 11), 15);
        Check.due("replay() does not go on with the count", counting.replay(0, 0), 0);
        Check.due("the count stays", counting.point(0, 11), 15);
    }

    private static void fortyValues() {
        Desk desk = Desks.withPoints(1);
        for (int k = 0; k < 20; k++) {
            Desks.tickValues(desk, 0, 100, 0);
        }
        Check.due("40 values", desk.replay(0, 0), 20);
        desk.tick(1);
        Check.due("41 values, the oldest one is not kept", desk.replay(0, 0), 19);
        desk.tick(37);
        Check.due("78 values, two of the first 40 are kept", desk.replay(0, 0), 1);
        desk.tick(1);
        Check.due("79 values, one of the first 40 is kept", desk.replay(0, 0), 0);
        desk.setValue(0, 100);
        desk.tick(1);
        Check.due("80 values", desk.replay(0, 0), 1);
        desk.tick(100);
        Check.due("180 values", desk.replay(0, 0), 1);
        desk.set(0, 1, 101);
        Check.due("180 values that are not over", desk.replay(0, 0), 0);
    }

    /** Ten values that are over are the first of those kept, then nine. */
    private static void oldestValueOpensTheCount() {
        Desk desk = Desks.withPoints(1);
        desk.setValue(0, 1);
        desk.tick(10);
        desk.setValue(0, 0);
        desk.tick(1);
        desk.setValue(0, 1);
        desk.tick(10);
        desk.setValue(0, 0);
        desk.tick(19);
        desk.set(0, 1, 1);
        desk.set(0, 3, 9);
        Check.due("10 values first of 40, delay 9", desk.replay(0, 0), 2);
        desk.tick(1);
        Check.due("9 values first of 40, delay 9", desk.replay(0, 0), 1);
        desk.set(0, 3, 8);
        Check.due("9 values first of 40, delay 8", desk.replay(0, 0), 2);
    }

    private static void valuesBeforeUndo() {
        Desk desk = Desks.withPoints(1);
        for (int k = 0; k < 20; k++) {
            Desks.tickValues(desk, 0, 100, 0);
        }
        desk.tick(100);
        Check.due("after tick(100)", desk.replay(0, 0), 0);
        desk.undo();
        Check.due("after undo()", desk.replay(0, 0), 20);
        desk.undo();
        Check.due("after undo() of a tick", desk.replay(0, 0), 20);
        desk.setValue(0, 100);
        desk.tick(1);
        desk.set(0, 3, 1);
        Check.due("another value in its place", desk.replay(0, 0), 1);
    }

    private static void pointsApart() {
        Desk desk = Desks.full();
        for (int k = 0; k < 6; k++) {
            for (int point = 0; point < 16; point++) {
                desk.setValue(point, k % (point + 1) == 0 ? 100 : 0);
            }
            desk.tick(1);
        }
        int[] due = {1, 3, 2, 2, 2, 1, 1, 1, 1, 1, 1, 1, 1, 1, 1, 1};
        for (int point = 0; point < 16; point++) {
            Check.due("replay(" + point + ", 0)", desk.replay(point, 0), due[point]);
        }
    }
}
