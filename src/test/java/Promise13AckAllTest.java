/** Promise 13: ackAll. */
public final class Promise13AckAllTest {

    public static void main(String[] args) {
        Check.promise(13, "ackAll");
        ofNone();
        ofAll();
        inTheOrderOfTheList();
        onlyThoseNotAcknowledged();
        noneThatIsHidden();
        alsoThoseNoLongerInAlarm();
        isAnAct();
        leavesAllElse();
        Check.end();
    }

    private static void ofNone() {
        Desk desk = new Desk();
        Check.due("ackAll() without points", desk.ackAll(), 0);
        desk.add(100, 2);
        Check.due("ackAll() of no alarm", desk.ackAll(), 0);
        Check.due("events()", desk.events(), 0);
        Check.due("meanAck()", desk.meanAck(), 0);
    }

    private static void ofAll() {
        Desk desk = Desks.inAlarm(16, 2);
        Check.due("ackAll() of 16", desk.ackAll(), 16);
        Check.due("events()", desk.events(), 32);
        for (int k = 0; k < 16; k++) {
            Check.due("point(" + k + ", 10)", desk.point(k, 10), 1);
            Check.eventIs(desk, "ackAll()", 15 - k, 1, 3, k);
        }
        Check.due("count(7)", desk.count(7), 0);
        Check.due("ackAll() again", desk.ackAll(), 0);
    }

    private static void inTheOrderOfTheList() {
        Desk desk = new Desk();
        int[] limits = {1, 0, 0, 0, 0, 0};
        int[] priorities = {2, 3, 2, 2, 2, 1};
        for (int k = 0; k < limits.length; k++) {
            desk.add(limits[k], priorities[k]);
        }
        desk.setFlood(10, 50, 0);
        desk.tick(2);
        desk.setValue(0, 1);
        desk.tick(1);
        desk.shelve(3, 10);
        desk.ack(2);
        Check.due("ackAll()", desk.ackAll(), 4);
        int[] points = {5, 4, 0, 1};
        for (int k = 0; k < points.length; k++) {
            Check.eventIs(desk, "ackAll()", 3 - k, 3, 3, points[k]);
        }
        Check.due("the mean of 2, 2, 2, 0, 2", desk.meanAck(), 8.0f / 5.0f);
    }

    private static void onlyThoseNotAcknowledged() {
        Desk desk = Desks.inAlarm(3, 2);
        desk.ack(1);
        desk.tick(4);
        int events = desk.events();
        Check.due("ackAll()", desk.ackAll(), 2);
        Check.due("events()", desk.events(), events + 2);
        Check.due("the mean of 0, 4, 4", desk.meanAck(), 8.0f / 3.0f);
    }

    private static void noneThatIsHidden() {
        Desk desk = Desks.inAlarm(6, 4);
        desk.shelve(0, 9);
        desk.set(1, 6, 1);
        desk.setRoot(2, 3);
        desk.add(0, 4);
        desk.add(0, 3);
        desk.setFlood(1, 1, 0);
        desk.tick(1);
        int[] due = {1, 2, 3, 0, 0, 0, 4, 4};
        for (int k = 0; k < due.length; k++) {
            Check.due("point(" + k + ", 15)", desk.point(k, 15), due[k]);
        }
        Check.due("ackAll()", desk.ackAll(), 3);
        for (int k = 0; k < due.length; k++) {
            Check.due("point(" + k + ", 10)", desk.point(k, 10), due[k] == 0 ? 1 : 0);
        }
        Check.due("count(7)", desk.count(7), 5);
    }

    private static void alsoThoseNoLongerInAlarm() {
        Desk desk = Desks.inAlarm(2, 2);
        desk.setValue(0, -1);
        desk.tick(1);
        Check.due("ackAll()", desk.ackAll(), 2);
        Check.due("count(0)", desk.count(0), 1);
    }

    private static void isAnAct() {
        Check.oneAct("ackAll() of a new desk", 0, Desks::fresh, d -> d.ackAll());
        Check.oneAct("ackAll()", 1, Desks::busy, d -> d.ackAll());
        Check.oneAct("ackAll() of none", 0, Desks::full, d -> d.ackAll());
        Check.oneAct("fourth act", 2, () -> Desks.inAlarm(2, 1), d -> d.ackAll());
    }

    private static void leavesAllElse() {
        Check.changesOnly("ackAll()", Desks::busy, d -> d.ackAll(), "point(0, 10)", "events()");
        Check.changesOnly("ackAll() of none", Desks::full, d -> d.ackAll());
        Check.changesOnly("ackAll() of two", Desks::inAlarmAndCounting, d -> d.ackAll(),
                "point(0, 10)", "point(1, 10)", "events()", "meanAck()");
    }
}
