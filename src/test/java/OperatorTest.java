/** Promises 12 to 15 and 20: ack, ackAll, shelve, unshelve, meanAck. */
public final class OperatorTest {

    public static void main(String[] args) {
        acked();
        ackRefused();
        ackOfHiddenPoint();
        ackedAll();
        ackAllLeavesHiddenPoints();
        ackAllOfNone();
        shelved();
        shelveRefused();
        unshelved();
        means();
        Check.end();
    }

    private static AlarmDesk deskInAlarm(int points, int priority) {
        AlarmDesk desk = new AlarmDesk();
        for (int k = 0; k < points; k++) {
            desk.add(0, priority);
        }
        desk.setFlood(1, 50, 50);
        desk.tick(1);
        return desk;
    }

    private static void acked() {
        AlarmDesk desk = deskInAlarm(2, 2);
        Check.due("ack(0) at once", desk.ack(0), 0);
        Check.due("point(0, 10)", desk.point(0, 10), 1);
        Check.due("it stands in alarm", desk.point(0, 15), 0);
        Check.latestEvent(desk, "ack(0)", 1, 3, 0);
        desk.setValue(1, -1);
        desk.tick(7);
        Check.due("it stands until it is acknowledged", desk.point(1, 15), 0);
        Check.due("ack(1) after 7", desk.ack(1), 7);
        Check.due("it does not stand any more", desk.point(1, 15), AlarmDesk.NONE);
        Check.latestEvent(desk, "ack(1)", 8, 3, 1);
        Check.due("undo()", desk.undo(), 3);
        Check.due("not acknowledged after undo", desk.point(1, 10), 0);
    }

    private static void ackRefused() {
        AlarmDesk desk = new AlarmDesk();
        desk.add(0, 2);
        Check.refused(desk, "ack of a new point", AlarmDesk.STATE, () -> desk.ack(0));
        Check.refused(desk, "ack(1)", AlarmDesk.BAD, () -> desk.ack(1));
        Check.refused(desk, "ack(-1)", AlarmDesk.BAD, () -> desk.ack(-1));
        desk.tick(1);
        desk.ack(0);
        Check.refused(desk, "ack again", AlarmDesk.STATE, () -> desk.ack(0));
        Check.history(desk, "add, tick, ack", 3);
    }

    private static void ackOfHiddenPoint() {
        AlarmDesk desk = deskInAlarm(1, 2);
        desk.shelve(0, 5);
        Check.due("ack of a shelved point", desk.ack(0), 0);
        Check.due("it is shelved still", desk.point(0, 13), 6);
    }

    private static void ackedAll() {
        AlarmDesk desk = new AlarmDesk();
        int[] limits = {1, 0, 0, 0, 0};
        int[] priorities = {2, 3, 2, 2, 2};
        for (int k = 0; k < limits.length; k++) {
            desk.add(limits[k], priorities[k]);
        }
        desk.tick(2);
        desk.setValue(0, 1);
        desk.tick(1);
        desk.shelve(3, 10);
        desk.ack(2);
        Check.due("ackAll()", desk.ackAll(), 3);
        int[] points = {4, 0, 1};
        for (int k = 0; k < points.length; k++) {
            Check.due("its event " + k, desk.event(2 - k, 2), points[k]);
            Check.due("its kind " + k, desk.event(2 - k, 1), 3);
        }
        Check.due("the shelved one is not acknowledged", desk.point(3, 10), 0);
        Check.due("count(7)", desk.count(7), 1);
        Check.due("meanAck()", desk.meanAck(), 6.0f / 4.0f);
        Check.due("undo()", desk.undo(), 3);
        Check.due("count(7) after undo", desk.count(7), 4);
        Check.due("meanAck() after undo", desk.meanAck(), 2);
    }

    private static void ackAllLeavesHiddenPoints() {
        AlarmDesk desk = deskInAlarm(4, 2);
        desk.shelve(0, 9);
        Check.due("list(2)", desk.list(2), 3);
        desk.shelve(3, 9);
        Check.due("ackAll()", desk.ackAll(), 2);
        Check.due("point(0, 10)", desk.point(0, 10), 0);
        Check.due("point(3, 10)", desk.point(3, 10), 0);
        desk.setState(1);
        desk.set(1, 6, 2);
        desk.set(2, 6, 2);
        desk.setState(0);
        desk.unshelve(3);
        Check.due("ackAll() again", desk.ackAll(), 1);
        Check.due("point(0, 10)", desk.point(0, 10), 0);
        AlarmDesk one = deskInAlarm(2, 2);
        one.shelve(0, 9);
        Check.due("ackAll() with the point 0 on the shelf", one.ackAll(), 1);
    }

    private static void ackAllOfNone() {
        AlarmDesk desk = new AlarmDesk();
        Check.due("ackAll()", desk.ackAll(), 0);
        Check.due("events()", desk.events(), 0);
        Check.due("meanAck()", desk.meanAck(), 0);
        Check.history(desk, "ackAll() of none", 1);
    }

    private static void shelved() {
        AlarmDesk desk = deskInAlarm(2, 2);
        Check.due("shelve(0, 1)", desk.shelve(0, 1), 2);
        Check.latestEvent(desk, "shelve(0, 1)", 1, 4, 0);
        Check.due("shelve(0, 1000)", desk.shelve(0, 1000), 1001);
        Check.due("an event again", desk.events(), 4);
        Check.due("point(0, 13)", desk.point(0, 13), 1001);
        Check.due("point(0, 15)", desk.point(0, 15), 1);
        desk.tick(1);
        Check.due("the new time counts", desk.point(0, 13), 1001);
        Check.due("shelve(0, 2): a shorter time", desk.shelve(0, 2), 4);
        desk.tick(2);
        Check.due("the shorter time is over", desk.point(0, 13), 0);
        Check.due("shown again", desk.point(0, 15), 0);
    }

    private static void shelveRefused() {
        AlarmDesk desk = new AlarmDesk();
        desk.add(0, 1);
        desk.add(0, 4);
        Check.refused(desk, "shelve(0, 1)", AlarmDesk.STATE, () -> desk.shelve(0, 1));
        Check.refused(desk, "shelve(0, 0)", AlarmDesk.BAD, () -> desk.shelve(0, 0));
        Check.refused(desk, "shelve(1, 0)", AlarmDesk.BAD, () -> desk.shelve(1, 0));
        Check.refused(desk, "shelve(1, 1001)", AlarmDesk.BAD, () -> desk.shelve(1, 1001));
        Check.refused(desk, "shelve(2, 1)", AlarmDesk.BAD, () -> desk.shelve(2, 1));
        Check.refused(desk, "shelve(-1, 1)", AlarmDesk.BAD, () -> desk.shelve(-1, 1));
        Check.history(desk, "two adds", 2);
    }

    private static void unshelved() {
        AlarmDesk desk = deskInAlarm(2, 3);
        Check.refused(desk, "unshelve(0)", AlarmDesk.STATE, () -> desk.unshelve(0));
        Check.refused(desk, "unshelve(2)", AlarmDesk.BAD, () -> desk.unshelve(2));
        Check.refused(desk, "unshelve(-1)", AlarmDesk.BAD, () -> desk.unshelve(-1));
        desk.shelve(0, 9);
        desk.tick(4);
        Check.due("unshelve(0)", desk.unshelve(0), 5);
        Check.latestEvent(desk, "unshelve(0)", 5, 5, 0);
        Check.due("point(0, 13)", desk.point(0, 13), 0);
        Check.refused(desk, "unshelve(0) again", AlarmDesk.STATE, () -> desk.unshelve(0));
        Check.due("undo()", desk.undo(), 3);
        Check.due("point(0, 13) after undo", desk.point(0, 13), 10);
    }

    private static void means() {
        AlarmDesk desk = deskInAlarm(3, 2);
        Check.due("meanAck() without any", desk.meanAck(), 0);
        desk.tick(1);
        desk.ack(0);
        Check.due("meanAck() of 1", desk.meanAck(), 1);
        desk.tick(8);
        desk.ackAll();
        Check.due("meanAck() of 1, 9, 9", desk.meanAck(), 19.0f / 3.0f);
        desk.setValue(0, -1);
        desk.tick(1);
        desk.setValue(0, 0);
        Check.due("run()", Check.run(desk, "tick 1;tick 6;ack 0"), 3);
        Check.due("meanAck() of 1, 9, 9, 6", desk.meanAck(), 25.0f / 4.0f);
        desk.undo();
        Check.due("meanAck() after undo", desk.meanAck(), 19.0f / 3.0f);
        desk.tick(2);
        Check.due("a script that fails", Check.run(desk, "ack 0;ack 0"), -1001);
        Check.due("meanAck() after it", desk.meanAck(), 19.0f / 3.0f);
    }
}
