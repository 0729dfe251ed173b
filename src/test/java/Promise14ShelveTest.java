/** Promise 14: shelve. */
public final class Promise14ShelveTest {

    public static void main(String[] args) {
        Check.promise(14, "shelve");
        leastAndMost();
        beyondTheLastTime();
        outsideTheRanges();
        highestPriority();
        shelvedAlready();
        pointsThatDoNotStand();
        isAnAct();
        leavesAllElse();
        Check.end();
    }

    private static void leastAndMost() {
        Desk desk = Desks.withPoints(2);
        desk.tick(5);
        Check.due("shelve(0, 1)", desk.shelve(0, 1), 6);
        Check.due("point(0, 13)", desk.point(0, 13), 6);
        Check.latestEvent(desk, "shelve(0, 1)", 5, 4, 0);
        Check.due("shelve(1, 1000)", desk.shelve(1, 1000), 1005);
        Check.due("point(1, 13)", desk.point(1, 13), 1005);
        Check.latestEvent(desk, "shelve(1, 1000)", 5, 4, 1);
        Desks.tickTo(desk, 1004);
        Check.due("point(0, 13)", desk.point(0, 13), 0);
        Check.due("point(1, 13)", desk.point(1, 13), 1005);
        desk.tick(1);
        Check.due("point(1, 13)", desk.point(1, 13), 0);
    }

    private static void beyondTheLastTime() {
        Desk desk = Desks.late();
        Check.due("shelve(0, 1000) at 10000", desk.shelve(0, 1000), 11000);
        Check.due("point(0, 13)", desk.point(0, 13), 11000);
        Check.due("point(0, 15)", desk.point(0, 15), 1);
        Check.due("unshelve(0)", desk.unshelve(0), 1000);
    }

    private static void outsideTheRanges() {
        Check.outsideThePoints("shelve() of the point", (d, x) -> d.shelve(x, 1));
        Check.outside("shelve() of a shelved point for", 1, 1000, Desks::busy,
                (d, x) -> d.shelve(1, x));
        Check.outside("shelve() of another point for", 1, 1000, Desks::busy,
                (d, x) -> d.shelve(2, x));
        Check.outside("shelve() at 10000 for", 1, 1000, Desks::late, (d, x) -> d.shelve(0, x));
        Check.refused("shelve(5, 0)", AlarmDesk.BAD, Desks::busy, d -> d.shelve(5, 0));
    }

    private static void highestPriority() {
        Check.refused("shelve(0, 1)", AlarmDesk.STATE, Desks::busy, d -> d.shelve(0, 1));
        Check.refused("shelve(0, 1000)", AlarmDesk.STATE, Desks::busy, d -> d.shelve(0, 1000));
        Check.outside("shelve() of the highest priority for", 1, 1000, Desks::busy,
                (d, x) -> d.shelve(0, x));
        for (int priority = 2; priority <= 4; priority++) {
            Desk desk = Desks.inAlarm(1, 1);
            desk.set(0, 5, priority);
            Check.due("shelve() with the priority " + priority, desk.shelve(0, 5), 6);
            Check.due("point(0, 15)", desk.point(0, 15), 1);
        }
    }

    private static void shelvedAlready() {
        Desk desk = Desks.withPoints(1);
        desk.shelve(0, 5);
        Check.due("shelve(0, 9): later", desk.shelve(0, 9), 9);
        Check.due("an event again", desk.events(), 2);
        Check.latestEvent(desk, "shelve(0, 9)", 0, 4, 0);
        desk.tick(5);
        Check.due("the first time does not count", desk.point(0, 13), 9);
        Check.due("shelve(0, 2): earlier", desk.shelve(0, 2), 7);
        Check.due("an event again", desk.events(), 3);
        desk.tick(1);
        Check.due("point(0, 13)", desk.point(0, 13), 7);
        Check.due("shelve(0, 1): as it is", desk.shelve(0, 1), 7);
        Check.due("an event again", desk.events(), 4);
        desk.tick(1);
        Check.due("the new time counts", desk.point(0, 13), 0);
        Check.latestEvent(desk, "the new time", 7, 5, 0);
        desk.tick(5);
        Check.due("events() when the other times are over", desk.events(), 5);
    }

    private static void pointsThatDoNotStand() {
        Desk desk = Desks.withPoints(1);
        desk.shelve(0, 3);
        Check.due("point(0, 15)", desk.point(0, 15), AlarmDesk.NONE);
        desk.setValue(0, 100);
        desk.tick(1);
        Check.due("it comes into alarm on the shelf", desk.point(0, 9), 1);
        Check.due("point(0, 15)", desk.point(0, 15), 1);
        desk.tick(2);
        Check.due("shown when the time is over", desk.point(0, 15), 0);
    }

    private static void isAnAct() {
        Check.oneAct("shelve(2, 1)", 4, Desks::busy, d -> d.shelve(2, 1));
        Check.oneAct("shelve(1, 1000) again", 1003, Desks::busy, d -> d.shelve(1, 1000));
        Check.oneAct("shelve(1, 30) as it was", 33, Desks::busy, d -> d.shelve(1, 30));
        Check.oneAct("second act", 7, () -> Desks.withPoints(1), d -> d.shelve(0, 7));
    }

    private static void leavesAllElse() {
        Check.changesOnly("shelve(2, 5)", Desks::busy, d -> d.shelve(2, 5), "point(2, 13)",
                "events()");
        Check.changesOnly("shelve(3, 5)", Desks::busy, d -> d.shelve(3, 5), "point(3, 13)",
                "point(3, 15)", "events()");
        Check.changesOnly("shelve(1, 31)", Desks::busy, d -> d.shelve(1, 31), "point(1, 13)",
                "events()");
        Check.changesOnly("shelve(1, 30) as it was", Desks::busy, d -> d.shelve(1, 30),
                "events()");
        Check.changesOnly("shelve(1, 9)", Desks::inAlarmAndCounting, d -> d.shelve(1, 9),
                "point(1, 13)", "point(1, 15)", "events()");
    }
}
