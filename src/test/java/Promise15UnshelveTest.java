/** Promise 15: unshelve. */
public final class Promise15UnshelveTest {

    public static void main(String[] args) {
        Check.promise(15, "unshelve");
        ticksLeft();
        outsideTheRange();
        notShelved();
        shelfThatIsOver();
        isAnAct();
        leavesAllElse();
        Check.end();
    }

    private static void ticksLeft() {
        Desk desk = Desks.inAlarm(2, 3);
        desk.shelve(0, 9);
        desk.shelve(1, 1000);
        Check.due("unshelve(1) at once", desk.unshelve(1), 1000);
        Check.latestEvent(desk, "unshelve(1)", 1, 5, 1);
        Check.due("point(1, 13)", desk.point(1, 13), 0);
        desk.tick(8);
        Check.due("unshelve(0) a tick before the end", desk.unshelve(0), 1);
        Check.latestEvent(desk, "unshelve(0)", 9, 5, 0);
        Check.due("point(0, 13)", desk.point(0, 13), 0);
        Check.due("point(0, 15)", desk.point(0, 15), 0);
        int events = desk.events();
        desk.tick(5);
        Check.due("events() when the time is over", desk.events(), events);
    }

    private static void outsideTheRange() {
        Check.outsideThePoints("unshelve()", (d, x) -> d.unshelve(x));
    }

    private static void notShelved() {
        for (int point : new int[] {0, 2, 3, 4}) {
            Check.refused("unshelve(" + point + ")", AlarmDesk.STATE, Desks::busy,
                    d -> d.unshelve(point));
        }
        Check.refused("unshelve(1) again", AlarmDesk.STATE, () -> {
            Desk desk = Desks.busy();
            desk.unshelve(1);
            return desk;
        }, d -> d.unshelve(1));
        Check.refused("unshelve() of a point with the priority 1 now", AlarmDesk.STATE, () -> {
            Desk desk = Desks.busy();
            desk.set(1, 5, 1);
            return desk;
        }, d -> d.unshelve(1));
    }

    private static void shelfThatIsOver() {
        Desk desk = Desks.withPoints(1);
        desk.shelve(0, 3);
        desk.tick(3);
        int events = desk.events();
        Check.due("unshelve(0) at the end", desk.unshelve(0), AlarmDesk.STATE);
        Check.due("events()", desk.events(), events);
    }

    private static void isAnAct() {
        Check.oneAct("unshelve(1)", 30, Desks::busy, d -> d.unshelve(1));
        Check.oneAct("third act", 2, () -> {
            Desk desk = Desks.withPoints(1);
            desk.shelve(0, 2);
            return desk;
        }, d -> d.unshelve(0));
    }

    private static void leavesAllElse() {
        Check.changesOnly("unshelve(1)", Desks::busy, d -> d.unshelve(1), "point(1, 13)",
                "point(1, 15)", "events()");
    }
}
