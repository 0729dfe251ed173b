/** Promises 16 to 19 and 21: list, count, events, event, worst. */
public final class ListsTest {

    public static void main(String[] args) {
        listOrder();
        listRefused();
        counts();
        countRefused();
        eventsKept();
        eventRefused();
        worstOfKeptEvents();
        worstOfNone();
        Check.end();
    }

    private static void listIs(AlarmDesk desk, String when, int... due) {
        for (int k = 0; k < due.length; k++) {
            Check.due("list(" + k + ") " + when, desk.list(k), due[k]);
        }
        Check.due("end of the list " + when, desk.list(due.length), AlarmDesk.NONE);
        Check.due("count(1) " + when, desk.count(1), due.length);
    }

    private static void listOrder() {
        AlarmDesk desk = new AlarmDesk();
        desk.setFlood(1, 50, 50);
        int[] priorities = {4, 3, 3, 3, 3, 1};
        for (int k = 0; k < priorities.length; k++) {
            desk.add(10, priorities[k]);
        }
        listIs(desk, "of none");
        int[] order = {0, 3, 4, 1, 5, 2};
        for (int k = 0; k < order.length; k++) {
            desk.setValue(order[k], 10);
            desk.tick(1);
        }
        listIs(desk, "by priority, then by time", 5, 3, 4, 1, 2, 0);
        desk.ack(3);
        desk.ack(4);
        listIs(desk, "acknowledged ones later", 5, 1, 2, 3, 4, 0);
        desk.ack(1);
        listIs(desk, "acknowledged ones by time", 5, 2, 3, 4, 1, 0);
        desk.set(0, 5, 1);
        listIs(desk, "with another priority", 0, 5, 2, 3, 4, 1);
        desk.shelve(2, 5);
        listIs(desk, "without a shelved one", 0, 5, 3, 4, 1);
        desk.setValue(3, 0);
        desk.setValue(5, 0);
        desk.tick(1);
        listIs(desk, "without one that does not stand", 0, 5, 4, 1);
        desk.setValue(3, 10);
        desk.setValue(5, 10);
        desk.tick(1);
        listIs(desk, "by the latest activations", 0, 5, 3, 4, 1);
        AlarmDesk alike = new AlarmDesk();
        for (int k = 0; k < 16; k++) {
            alike.add(0, 2);
        }
        alike.tick(1);
        listIs(alike, "of 16 alike", 0, 1, 2, 3, 4, 5, 6, 7, 8, 9, 10, 11, 12, 13, 14, 15);
    }

    private static void listRefused() {
        AlarmDesk desk = new AlarmDesk();
        desk.add(0, 2);
        desk.tick(1);
        Check.refused(desk, "list(-1)", AlarmDesk.BAD, () -> desk.list(-1));
        Check.refused(desk, "list(1)", AlarmDesk.NONE, () -> desk.list(1));
        Check.refused(desk, "list(MAX)", AlarmDesk.NONE, () -> desk.list(Integer.MAX_VALUE));
        Check.history(desk, "add, tick", 2);
    }

    private static void counts() {
        AlarmDesk desk = new AlarmDesk();
        int[] limits = {0, 0, 0, 0, 0, 10, 0, 1, 10};
        for (int k = 0; k < limits.length; k++) {
            desk.add(limits[k], k == 4 ? 4 : 2);
        }
        desk.setFlood(10, 2, 0);
        desk.setRoot(3, 0);
        desk.setRoot(6, 3);
        desk.set(2, 6, 1);
        desk.tick(1);
        desk.shelve(1, 100);
        desk.shelve(5, 100);
        desk.setValue(7, 1);
        desk.tick(1);
        desk.setValue(7, 0);
        desk.tick(1);
        desk.ack(0);
        // 0 shown and acknowledged, 1 shelved, 2 by its state, 3 and 6 by the root 0, 4 by the
        // flood, 5 shelved without an alarm, 7 shown and no longer in alarm, 8 never in alarm
        int[] due = {7, 2, 1, 1, 2, 1, 2, 6};
        for (int what = 0; what <= 7; what++) {
            Check.due("count(" + what + ")", desk.count(what), due[what]);
        }
    }

    private static void countRefused() {
        AlarmDesk desk = new AlarmDesk();
        Check.refused(desk, "count(8)", AlarmDesk.BAD, () -> desk.count(8));
        Check.refused(desk, "count(-1)", AlarmDesk.BAD, () -> desk.count(-1));
    }

    private static void eventsKept() {
        AlarmDesk desk = new AlarmDesk();
        desk.add(100, 3);
        for (int k = 1; k <= 29; k++) {
            desk.shelve(0, k);
        }
        desk.tick(1);
        Check.due("events()", desk.events(), 29);
        Check.due("event(28, 1)", desk.event(28, 1), 4);
        Check.due("event(29, 0)", desk.event(29, 0), AlarmDesk.NONE);
        desk.unshelve(0);
        Check.due("event(29, 1)", desk.event(29, 1), 4);
        Check.due("event(30, 1)", desk.event(30, 1), AlarmDesk.NONE);
        desk.shelve(0, 1);
        desk.tick(1);
        Check.due("events() with those not kept", desk.events(), 32);
        Check.latestEvent(desk, "the shelf ends", 2, 5, 0);
        Check.due("event(1, 0)", desk.event(1, 0), 1);
        Check.due("event(1, 1)", desk.event(1, 1), 4);
        Check.due("event(2, 1)", desk.event(2, 1), 5);
        Check.due("event(29, 0)", desk.event(29, 0), 0);
        Check.due("event(30, 0)", desk.event(30, 0), AlarmDesk.NONE);
        Check.due("event(31, 0)", desk.event(31, 0), AlarmDesk.NONE);
        desk.undo();
        Check.due("events() after undo", desk.events(), 31);
        Check.latestEvent(desk, "undo()", 1, 4, 0);
    }

    private static void eventRefused() {
        AlarmDesk desk = new AlarmDesk();
        desk.add(100, 3);
        desk.shelve(0, 1);
        Check.refused(desk, "event(-1, 0)", AlarmDesk.BAD, () -> desk.event(-1, 0));
        Check.refused(desk, "event(0, -1)", AlarmDesk.BAD, () -> desk.event(0, -1));
        Check.refused(desk, "event(0, 3)", AlarmDesk.BAD, () -> desk.event(0, 3));
        Check.refused(desk, "event(1, 3)", AlarmDesk.BAD, () -> desk.event(1, 3));
        Check.refused(desk, "event(1, 0)", AlarmDesk.NONE, () -> desk.event(1, 0));
        Check.refused(desk, "event(MAX, 2)", AlarmDesk.NONE,
                () -> desk.event(Integer.MAX_VALUE, 2));
    }

    private static void swing(AlarmDesk desk, int point, int times) {
        for (int k = 0; k < times; k++) {
            desk.setValue(point, 1);
            desk.tick(1);
            desk.setValue(point, 0);
            desk.tick(1);
        }
    }

    private static void worstOfKeptEvents() {
        AlarmDesk desk = new AlarmDesk();
        desk.setFlood(1, 50, 50);
        for (int k = 0; k < 3; k++) {
            desk.add(1, 2);
        }
        swing(desk, 2, 1);
        Check.due("worst() of one", desk.worst(), 2);
        swing(desk, 1, 1);
        Check.due("worst() of two alike", desk.worst(), 1);
        swing(desk, 2, 7);
        Check.due("worst() with more", desk.worst(), 2);
        swing(desk, 0, 6);
        Check.due("worst() while the others are kept", desk.worst(), 2);
        swing(desk, 0, 1);
        Check.due("worst() of those that are kept", desk.worst(), 0);
        Check.due("all activations of 0", desk.point(0, 14), 7);
        Check.due("all activations of 2", desk.point(2, 14), 8);
    }

    private static void worstOfNone() {
        AlarmDesk desk = new AlarmDesk();
        Check.due("worst() without points", desk.worst(), AlarmDesk.NONE);
        desk.add(0, 2);
        Check.due("worst() without events", desk.worst(), AlarmDesk.NONE);
        desk.tick(1);
        Check.due("worst()", desk.worst(), 0);
        for (int k = 0; k < 30; k++) {
            desk.shelve(0, 1);
        }
        Check.due("worst() without activations among those kept", desk.worst(), AlarmDesk.NONE);
    }
}
