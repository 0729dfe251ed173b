/** Promise 3: set. */
public final class Promise03SetTest {

    private static final int[] LEAST = {0, -10000, 0, 0, 0, 1, 0};
    private static final int[] MOST = {1, 10000, 1000, 20, 20, 4, 15};

    public static void main(String[] args) {
        Check.promise(3, "set");
        leastAndMost();
        outsideTheRanges();
        isAnAct();
        leavesOtherSettings();
        leavesCountAndAlarm();
        newSettingsCountAtTheNextTick();
        priority1LeavesTheShelf();
        otherPrioritiesStayOnTheShelf();
        priority1WithoutShelf();
        refusedPriorityStaysOnTheShelf();
        Check.end();
    }

    private static void leastAndMost() {
        Desk desk = new Desk();
        desk.add(100, 3);
        int[] first = {0, 100, 0, 0, 0, 3, 0};
        for (int setting = 0; setting <= 6; setting++) {
            String call = "set(0, " + setting + ", ..)";
            Check.due(call, desk.set(0, setting, MOST[setting]), first[setting]);
            Check.due("point() after " + call, desk.point(0, setting), MOST[setting]);
            Check.due(call, desk.set(0, setting, LEAST[setting]), MOST[setting]);
            Check.due("point() after " + call, desk.point(0, setting), LEAST[setting]);
            Check.due(call, desk.set(0, setting, LEAST[setting]), LEAST[setting]);
        }
    }

    private static void outsideTheRanges() {
        Check.outsideThePoints("set() of the point", (d, x) -> d.set(x, 1, 1));
        Check.outside("set() of the setting", 0, 6, Desks::busy, (d, x) -> d.set(1, x, 1));
        for (int setting = 0; setting <= 6; setting++) {
            int s = setting;
            Check.outside("set() of " + s + " to the value", LEAST[s], MOST[s], Desks::busy,
                    (d, x) -> d.set(1, s, x));
        }
        Check.refused("set(5, 7, 99999)", AlarmDesk.BAD, Desks::busy, d -> d.set(5, 7, 99999));
    }

    private static void isAnAct() {
        for (int setting = 0; setting <= 6; setting++) {
            int s = setting;
            int now = new int[] {0, 5, 0, 9, 0, 3, 0}[s];
            Check.oneAct("set() of " + s, now, Desks::busy, d -> d.set(2, s, MOST[s]));
            Check.oneAct("set() of " + s, now, Desks::busy, d -> d.set(2, s, LEAST[s]));
            Check.oneAct("set() to the same", now, Desks::busy, d -> d.set(2, s, now));
        }
        Check.oneAct("set() of a shelved point to priority 1", 2, Desks::busy, d -> d.set(1, 5, 1));
        Check.oneAct("second act", 100, () -> Desks.withPoints(1), d -> d.set(0, 1, 3));
    }

    private static void leavesOtherSettings() {
        for (int setting = 0; setting <= 6; setting++) {
            int s = setting;
            Check.changesOnly("set(2, " + s + ", ..)", Desks::busy, d -> d.set(2, s, MOST[s]),
                    "point(2, " + s + ")");
        }
        for (int priority = 3; priority <= 4; priority++) {
            int p = priority;
            Check.changesOnly("set(1, 5, " + p + ")", Desks::inAlarmAndCounting,
                    d -> d.set(1, 5, p), "point(1, 5)");
        }
        Check.changesOnly("set() as it was", Desks::busy, d -> d.set(2, 1, 5));
        Check.changesOnly("set(2, 3, 2)", Desks::busy, d -> d.set(2, 3, 2), "point(2, 3)",
                "replay(2)");
        Check.changesOnly("set(3, 6, 4)", Desks::busy, d -> d.set(3, 6, 4), "point(3, 6)",
                "point(3, 15)");
        Check.changesOnly("set(1, 5, 1)", Desks::busy, d -> d.set(1, 5, 1), "point(1, 5)",
                "point(1, 13)", "point(1, 15)", "events()");
    }

    private static void leavesCountAndAlarm() {
        for (int setting = 0; setting <= 6; setting++) {
            for (int value : new int[] {LEAST[setting], MOST[setting]}) {
                Desk desk = countingDesk();
                String after = " after set() of " + setting + " to " + value;
                int events = desk.events();
                for (int k = 0; k < 2; k++) {
                    desk.set(k, setting, value);
                    Check.due("alarm" + after, desk.point(k, 9), k);
                    Check.due("acknowledged" + after, desk.point(k, 10), 1 - k);
                    Check.due("count" + after, desk.point(k, 11), 4);
                    Check.due("latest activation" + after, desk.point(k, 12), k);
                    Check.due("activations" + after, desk.point(k, 14), k);
                }
                Check.due("events()" + after, desk.events(), events);
            }
        }
    }

    /** 0 is not in alarm and counts, 1 is in alarm and counts; both counts are 4. */
    private static Desk countingDesk() {
        Desk desk = new Desk();
        desk.add(10, 2);
        desk.add(0, 2);
        desk.set(0, 3, 20);
        desk.set(1, 4, 20);
        desk.tick(1);
        desk.setValue(0, 10);
        desk.setValue(1, -1);
        desk.tick(4);
        return desk;
    }

    private static void newSettingsCountAtTheNextTick() {
        Desk on = countingDesk();
        on.set(0, 3, 5);
        on.tick(1);
        Check.due("the count 5 with the delay on 5", on.point(0, 9), 0);
        on.set(0, 3, 2);
        Check.due("set() alone makes no alarm", on.point(0, 9), 0);
        on.tick(1);
        Check.due("the count 6 with the delay on 2", on.point(0, 9), 1);
        Desk off = countingDesk();
        off.set(1, 4, 5);
        off.tick(1);
        Check.due("the count 5 with the delay off 5", off.point(1, 9), 1);
        off.set(1, 4, 2);
        Check.due("set() alone ends no alarm", off.point(1, 9), 1);
        off.tick(1);
        Check.due("the count 6 with the delay off 2", off.point(1, 9), 0);
        Desk kind = countingDesk();
        kind.set(0, 0, 1);
        kind.set(0, 1, 9);
        kind.set(0, 3, 0);
        kind.tick(1);
        Check.due("10 is not over for low 9", kind.point(0, 9), 0);
        Check.due("the count is 0 then", kind.point(0, 11), 0);
    }

    private static void priority1LeavesTheShelf() {
        Desk desk = new Desk();
        desk.add(100, 3);
        desk.add(100, 3);
        desk.tick(2);
        desk.shelve(0, 9);
        desk.shelve(1, 9);
        Check.due("set(0, 5, 1)", desk.set(0, 5, 1), 3);
        Check.due("not shelved with the priority 1", desk.point(0, 13), 0);
        Check.due("events()", desk.events(), 3);
        Check.latestEvent(desk, "the priority 1", 2, 5, 0);
        Check.due("another point stays on the shelf", desk.point(1, 13), 11);
        Check.due("set(0, 5, 1) again", desk.set(0, 5, 1), 1);
        Check.due("events() of an empty shelf", desk.events(), 3);
        desk.undo();
        desk.undo();
        Check.due("shelved again by undo()", desk.point(0, 13), 11);
        Check.due("events() after undo()", desk.events(), 2);
    }

    private static void otherPrioritiesStayOnTheShelf() {
        for (int priority = 2; priority <= 4; priority++) {
            Desk desk = new Desk();
            desk.add(100, 3);
            desk.shelve(0, 9);
            desk.set(0, 5, priority);
            Check.due("shelved with the priority " + priority, desk.point(0, 13), 9);
            Check.due("events()", desk.events(), 1);
        }
        for (int setting = 0; setting <= 6; setting++) {
            Desk desk = new Desk();
            desk.add(100, 3);
            desk.shelve(0, 9);
            desk.set(0, setting, setting == 5 ? 3 : 1);
            Check.due("shelved after set() of " + setting + " to 1", desk.point(0, 13), 9);
            Check.due("events()", desk.events(), 1);
        }
    }

    private static void priority1WithoutShelf() {
        Desk desk = new Desk();
        desk.add(100, 3);
        desk.set(0, 5, 1);
        Check.due("events() of a point that is not shelved", desk.events(), 0);
        desk.set(0, 5, 3);
        desk.shelve(0, 2);
        desk.tick(2);
        desk.set(0, 5, 1);
        Check.due("events() of a shelf that is over", desk.events(), 2);
    }

    private static void refusedPriorityStaysOnTheShelf() {
        Desk desk = new Desk();
        desk.add(100, 3);
        desk.shelve(0, 9);
        Check.due("set(0, 5, 0)", desk.set(0, 5, 0), AlarmDesk.BAD);
        Check.due("shelved still", desk.point(0, 13), 9);
        Check.due("events()", desk.events(), 1);
    }
}
