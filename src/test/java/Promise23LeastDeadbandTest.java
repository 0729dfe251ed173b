/** Promise 23: leastDeadband. */
public final class Promise23LeastDeadbandTest {

    public static void main(String[] args) {
        Check.promise(23, "leastDeadband");
        outsideTheRanges();
        withoutValues();
        leastAndMostTimes();
        byTimes();
        asALowPoint();
        leastOfAll();
        thousandAndNone();
        byDelays();
        ownDeadbandDoesNotCount();
        byTryingEach();
        Check.end();
    }

    private static Desk withValues(int limit, int... values) {
        Desk desk = new Desk();
        desk.add(limit, 2);
        Desks.tickValues(desk, 0, values);
        return desk;
    }

    private static void outsideTheRanges() {
        Check.outsideThePoints("leastDeadband() of the point", (d, x) -> d.leastDeadband(x, 0));
        Check.outside("leastDeadband() for the times", 0, 40, Desks::busy,
                (d, x) -> d.leastDeadband(4, x));
        Check.refused("leastDeadband(5, 41)", AlarmDesk.BAD, Desks::busy,
                d -> d.leastDeadband(5, 41));
        Check.refused("leastDeadband(0, 0)", AlarmDesk.NONE, Desks::busy,
                d -> d.leastDeadband(0, 0));
    }

    private static void withoutValues() {
        Desk desk = Desks.withPoints(1);
        Check.due("leastDeadband(0, 0)", desk.leastDeadband(0, 0), 0);
        Check.due("leastDeadband(0, 40)", desk.leastDeadband(0, 40), 0);
        desk.tick(50);
        Check.due("leastDeadband(0, 0) never over", desk.leastDeadband(0, 0), 0);
    }

    private static void leastAndMostTimes() {
        Desk desk = Desks.withPoints(1);
        for (int k = 0; k < 20; k++) {
            Desks.tickValues(desk, 0, 100, 99);
        }
        Check.due("leastDeadband(0, 0)", desk.leastDeadband(0, 0), AlarmDesk.NONE);
        Check.due("leastDeadband(0, 1)", desk.leastDeadband(0, 1), 1);
        Check.due("leastDeadband(0, 19)", desk.leastDeadband(0, 19), 1);
        Check.due("leastDeadband(0, 20)", desk.leastDeadband(0, 20), 0);
        Check.due("leastDeadband(0, 40)", desk.leastDeadband(0, 40), 0);
    }

    private static void byTimes() {
        Desk desk = withValues(10, 10, 9, 10, 8, 12, 5, 10, -990, 10);
        int[] due = {AlarmDesk.NONE, 1000, 5, 2, 1, 0, 0};
        for (int times = 0; times < due.length; times++) {
            Check.due("leastDeadband(0, " + times + ")", desk.leastDeadband(0, times), due[times]);
        }
    }

    private static void asALowPoint() {
        Desk desk = withValues(-10, -10, -9, -10, -8, -12, -5, -10, 990, -10);
        desk.set(0, 0, 1);
        int[] due = {AlarmDesk.NONE, 1000, 5, 2, 1, 0, 0};
        for (int times = 0; times < due.length; times++) {
            Check.due("leastDeadband(0, " + times + ") of a low point",
                    desk.leastDeadband(0, times), due[times]);
        }
    }

    /** The first value below the limit that a deadband must reach, from 1 to 1000. */
    private static void leastOfAll() {
        for (int below : new int[] {1, 2, 3, 4, 7, 8, 499, 500, 501, 511, 512, 513, 998, 999}) {
            Desk desk = withValues(0, 0, -below, 0);
            Check.due("leastDeadband(0, 1) with -" + below, desk.leastDeadband(0, 1), below);
            Check.due("leastDeadband(0, 2) with -" + below, desk.leastDeadband(0, 2), 0);
        }
    }

    private static void thousandAndNone() {
        Desk most = withValues(10, 10, -990, 10);
        Check.due("leastDeadband(0, 1)", most.leastDeadband(0, 1), 1000);
        Desk none = withValues(10, 10, -991, 10);
        Check.due("leastDeadband(0, 1)", none.leastDeadband(0, 1), AlarmDesk.NONE);
        Check.due("leastDeadband(0, 2)", none.leastDeadband(0, 2), 0);
        Desk far = withValues(10000, 10000, -10000, 10000);
        Check.due("leastDeadband(0, 1)", far.leastDeadband(0, 1), AlarmDesk.NONE);
    }

    private static void byDelays() {
        Desk desk = withValues(10, 10, 10, 5, 4, 10, 10, 2, 10, 10);
        int[] due = {AlarmDesk.NONE, 8, 6, 0};
        for (int times = 0; times < due.length; times++) {
            Check.due("without delays", desk.leastDeadband(0, times), due[times]);
        }
        desk.set(0, 4, 1);
        Check.due("with the delay off 1", desk.leastDeadband(0, 1), 5);
        desk.set(0, 4, 2);
        Check.due("with the delay off 2", desk.leastDeadband(0, 1), 0);
        desk.set(0, 3, 2);
        Check.due("with the delay on 2", desk.leastDeadband(0, 0), 0);
    }

    private static void ownDeadbandDoesNotCount() {
        Desk desk = withValues(10, 10, 9, 10, 8, 12, 5, 10);
        desk.set(0, 2, 700);
        Check.due("leastDeadband(0, 2)", desk.leastDeadband(0, 2), 2);
        Check.due("point(0, 2)", desk.point(0, 2), 700);
    }

    /** Tries all deadbands by replay(); no value is more than 30 below the limit. */
    private static void byTryingEach() {
        for (int seed = 1; seed <= 40; seed++) {
            Desk desk = new Desk();
            desk.add(20, 2);
            desk.set(0, 3, seed % 3);
            desk.set(0, 4, seed % 4);
            int drawn = seed;
            for (int k = 0; k < 40; k++) {
                drawn = drawn * 1103515245 + 12345;
                Desks.tickValues(desk, 0, (drawn >>> 12) % 41 - 10);
            }
            int[] alarms = new int[31];
            for (int deadband = 0; deadband <= 30; deadband++) {
                alarms[deadband] = desk.replay(0, deadband);
            }
            for (int times = 0; times <= 12; times++) {
                Check.due("leastDeadband(0, " + times + ") of the seed " + seed,
                        desk.leastDeadband(0, times), firstOfAtMost(alarms, times));
            }
        }
    }

    private static int firstOfAtMost(int[] alarms, int times) {
        for (int deadband = 0; deadband < alarms.length; deadband++) {
            if (alarms[deadband] <= times) {
                return deadband;
            }
        }
        return AlarmDesk.NONE;
    }
}
