/** Promise 12: ack. */
public final class Promise12AckTest {

    public static void main(String[] args) {
        Check.promise(12, "ack");
        ticksSinceTheActivation();
        ticksSinceTheLatestActivation();
        outsideTheRange();
        acknowledgedAlready();
        inAlarmAndOutOfAlarm();
        hiddenPoints();
        isAnAct();
        leavesTheOthers();
        Check.end();
    }

    private static void ticksSinceTheActivation() {
        Desk desk = Desks.inAlarm(3, 2);
        Check.due("ack(0) at once", desk.ack(0), 0);
        Check.latestEvent(desk, "ack(0)", 1, 3, 0);
        desk.tick(1);
        Check.due("ack(1) after 1", desk.ack(1), 1);
        Check.latestEvent(desk, "ack(1)", 2, 3, 1);
        Desks.tickTo(desk, 10000);
        Check.due("ack(2) after 9999", desk.ack(2), 9999);
        Check.latestEvent(desk, "ack(2)", 10000, 3, 2);
    }

    private static void ticksSinceTheLatestActivation() {
        Desk desk = Desks.withPoints(1);
        Desks.tickValues(desk, 0, 100, 0, 100, 0);
        desk.tick(3);
        Check.due("ack(0)", desk.ack(0), 4);
    }

    private static void outsideTheRange() {
        Check.outsideThePoints("ack()", (d, x) -> d.ack(x));
    }

    private static void acknowledgedAlready() {
        Check.refused("ack(2) of a point never in alarm", AlarmDesk.STATE, Desks::busy,
                d -> d.ack(2));
        Check.refused("ack(4) again", AlarmDesk.STATE, Desks::busy, d -> d.ack(4));
        Check.refused("ack(0) again", AlarmDesk.STATE, () -> {
            Desk desk = Desks.inAlarm(1, 1);
            desk.ack(0);
            return desk;
        }, d -> d.ack(0));
    }

    private static void inAlarmAndOutOfAlarm() {
        Desk desk = Desks.inAlarm(2, 2);
        desk.setValue(1, -1);
        desk.tick(7);
        desk.ack(0);
        Check.due("acknowledged", desk.point(0, 10), 1);
        Check.due("in alarm still", desk.point(0, 9), 1);
        Check.due("it stands", desk.point(0, 15), 0);
        Check.due("ack(1)", desk.ack(1), 7);
        Check.due("acknowledged", desk.point(1, 10), 1);
        Check.due("it does not stand", desk.point(1, 15), AlarmDesk.NONE);
    }

    private static void hiddenPoints() {
        Desk desk = Desks.inAlarm(4, 3);
        desk.shelve(0, 5);
        Check.due("ack() of a shelved point", desk.ack(0), 0);
        Check.due("it is shelved still", desk.point(0, 13), 6);
        desk.set(1, 6, 1);
        Check.due("ack() of a point hidden in the state", desk.ack(1), 0);
        desk.setRoot(2, 0);
        Check.due("ack() of a point behind its root", desk.ack(2), 0);
        desk.add(0, 4);
        desk.add(0, 4);
        desk.setFlood(1, 1, 0);
        desk.tick(1);
        Check.due("hidden in a flood", desk.point(5, 15), 4);
        Check.due("ack() of a point hidden in a flood", desk.ack(5), 0);
    }

    private static void isAnAct() {
        Check.oneAct("ack(0)", 2, Desks::busy, d -> d.ack(0));
        Check.oneAct("ack(1) of a shelved point", 2, Desks::busy, d -> d.ack(1));
        Check.oneAct("third act", 0, () -> Desks.inAlarm(1, 1), d -> d.ack(0));
    }

    private static void leavesTheOthers() {
        Check.changesOnly("ack(3)", Desks::busy, d -> d.ack(3), "point(3, 10)", "events()");
        Check.changesOnly("ack(1)", Desks::busy, d -> d.ack(1), "point(1, 10)", "events()");
        Check.changesOnly("ack(0) a tick later", Desks::inAlarmAndCounting, d -> d.ack(0),
                "point(0, 10)", "events()", "meanAck()");
        Check.changesOnly("ack(1) of a point that counts", Desks::inAlarmAndCounting,
                d -> d.ack(1), "point(1, 10)", "events()", "meanAck()");
        Desk desk = Desks.inAlarm(16, 2);
        desk.ack(15);
        Check.due("count(7)", desk.count(7), 15);
        Check.due("events()", desk.events(), 17);
        for (int k = 0; k < 15; k++) {
            Check.due("point(" + k + ", 10)", desk.point(k, 10), 0);
        }
    }
}
