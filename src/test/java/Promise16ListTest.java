/** Promise 16: list. */
public final class Promise16ListTest {

    public static void main(String[] args) {
        Check.promise(16, "list");
        ofNone();
        outsideTheRange();
        sixteenAlike();
        smallerPriorityFirst();
        notAcknowledgedFirst();
        earlierActivationFirst();
        oneOrderWithinTheOther();
        onlyThoseShown();
        withEachChange();
        Check.end();
    }

    private static void listIs(Desk desk, String when, int... due) {
        for (int k = 0; k < due.length; k++) {
            Check.due("list(" + k + ") " + when, desk.list(k), due[k]);
        }
        Check.due("end of the list " + when, desk.list(due.length), AlarmDesk.NONE);
    }

    private static void ofNone() {
        listIs(new Desk(), "without points");
        listIs(Desks.full(), "of 16 that do not stand");
        Check.due("list(-1) without points", new Desk().list(-1), AlarmDesk.BAD);
        Check.due("list(MAX)", new Desk().list(Integer.MAX_VALUE), AlarmDesk.NONE);
    }

    private static void outsideTheRange() {
        for (int i : new int[] {-1, -2, Integer.MIN_VALUE}) {
            Check.refused("list(" + i + ")", AlarmDesk.BAD, Desks::busy, d -> d.list(i));
        }
        for (int i : new int[] {1, 2, 4, 5, 15, 16, 17, Integer.MAX_VALUE}) {
            Check.refused("list(" + i + ") of one", AlarmDesk.NONE, Desks::busy, d -> d.list(i));
        }
    }

    private static void sixteenAlike() {
        Desk desk = Desks.inAlarm(16, 2);
        listIs(desk, "of 16 alike", 0, 1, 2, 3, 4, 5, 6, 7, 8, 9, 10, 11, 12, 13, 14, 15);
        Check.due("list(15)", desk.list(15), 15);
        Check.due("list(16)", desk.list(16), AlarmDesk.NONE);
        Check.due("list(MAX)", desk.list(Integer.MAX_VALUE), AlarmDesk.NONE);
    }

    private static Desk inAlarmWith(int... priorities) {
        Desk desk = new Desk();
        desk.setFlood(1, 50, 50);
        for (int priority : priorities) {
            desk.add(0, priority);
        }
        desk.tick(1);
        return desk;
    }

    private static void smallerPriorityFirst() {
        listIs(inAlarmWith(4, 3, 2, 1), "by priority", 3, 2, 1, 0);
        listIs(inAlarmWith(2, 4, 2, 1, 4, 1), "by priority", 3, 5, 0, 2, 1, 4);
        Desk desk = inAlarmWith(2, 1);
        desk.ack(1);
        listIs(desk, "by priority, though acknowledged", 1, 0);
    }

    private static void notAcknowledgedFirst() {
        Desk desk = inAlarmWith(2, 2, 2, 2);
        desk.ack(1);
        listIs(desk, "one acknowledged", 0, 2, 3, 1);
        desk.ack(0);
        listIs(desk, "two acknowledged", 2, 3, 0, 1);
        desk.ack(3);
        listIs(desk, "three acknowledged", 2, 0, 1, 3);
        desk.ack(2);
        listIs(desk, "all acknowledged", 0, 1, 2, 3);
    }

    private static Desk inAlarmOneByOne(int... order) {
        Desk desk = new Desk();
        desk.setFlood(1, 50, 50);
        for (int k = 0; k < order.length; k++) {
            desk.add(1, 3);
        }
        for (int point : order) {
            desk.setValue(point, 1);
            desk.tick(1);
        }
        return desk;
    }

    private static void earlierActivationFirst() {
        Desk desk = inAlarmOneByOne(2, 0, 3, 1);
        listIs(desk, "by time", 2, 0, 3, 1);
        desk.setValue(2, 0);
        desk.tick(1);
        listIs(desk, "by time, though no longer in alarm", 2, 0, 3, 1);
        desk.setValue(2, 1);
        desk.tick(1);
        listIs(desk, "by the latest activation", 0, 3, 1, 2);
    }

    private static void oneOrderWithinTheOther() {
        Desk desk = inAlarmOneByOne(0, 3, 4, 1, 5, 2);
        desk.set(0, 5, 4);
        desk.set(5, 5, 1);
        listIs(desk, "by priority, then by time", 5, 3, 4, 1, 2, 0);
        desk.ack(3);
        desk.ack(4);
        listIs(desk, "acknowledged ones later", 5, 1, 2, 3, 4, 0);
        desk.ack(1);
        listIs(desk, "acknowledged ones by time", 5, 2, 3, 4, 1, 0);
        desk.set(0, 5, 1);
        listIs(desk, "with another priority, by time", 0, 5, 2, 3, 4, 1);
    }

    private static void onlyThoseShown() {
        Desk desk = inAlarmWith(2, 2, 2, 2, 2);
        desk.shelve(0, 9);
        desk.set(1, 6, 1);
        desk.setRoot(2, 3);
        desk.setValue(4, -1);
        listIs(desk, "without hidden ones", 3, 4);
        desk.tick(1);
        listIs(desk, "with one no longer in alarm", 3, 4);
        desk.ack(4);
        listIs(desk, "without one that does not stand", 3);
        desk.unshelve(0);
        listIs(desk, "with one from the shelf", 0, 3);
        desk.setState(1);
        listIs(desk, "in another state", 0, 1, 3);
        desk.setRoot(2, -1);
        listIs(desk, "without a root", 0, 1, 2, 3);
    }

    private static void withEachChange() {
        Desk desk = inAlarmWith(3, 2);
        listIs(desk, "of two", 1, 0);
        desk.ackAll();
        listIs(desk, "of two acknowledged ones", 1, 0);
        desk.set(1, 5, 4);
        listIs(desk, "with another priority", 0, 1);
        desk.undo();
        listIs(desk, "after undo()", 1, 0);
    }
}
