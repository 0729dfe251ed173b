/** Promise 1: a new object. */
public final class Promise01NewObjectTest {

    public static void main(String[] args) {
        Check.promise(1, "a new object");
        hasNothing();
        hasNoPoint();
        firstFloodNumbers();
        firstHighIs5();
        firstLowIs2();
        firstWindowIs10();
        isApartFromOthers();
        Check.end();
    }

    private static void hasNothing() {
        Desk desk = new Desk();
        Check.due("points()", desk.points(), 0);
        Check.due("events()", desk.events(), 0);
        Check.due("event(0, 0)", desk.event(0, 0), AlarmDesk.NONE);
        for (int what = 0; what <= 4; what++) {
            Check.due("plant(" + what + ")", desk.plant(what), 0);
        }
        for (int what = 0; what <= 7; what++) {
            Check.due("count(" + what + ")", desk.count(what), 0);
        }
        Check.due("list(0)", desk.list(0), AlarmDesk.NONE);
        Check.due("worst()", desk.worst(), AlarmDesk.NONE);
        Check.due("meanAck()", desk.meanAck(), 0);
        Check.due("undo()", desk.undo(), AlarmDesk.NONE);
        Check.due("run()", desk.run(), -100);
        Check.due("clear()", desk.clear(), 0);
    }

    private static void hasNoPoint() {
        Desk desk = new Desk();
        Check.due("point(0, 0)", desk.point(0, 0), AlarmDesk.BAD);
        Check.due("set(0, 0, 0)", desk.set(0, 0, 0), AlarmDesk.BAD);
        Check.due("setRoot(0, -1)", desk.setRoot(0, -1), AlarmDesk.BAD);
        Check.due("setValue(0, 0)", desk.setValue(0, 0), AlarmDesk.BAD);
        Check.due("ack(0)", desk.ack(0), AlarmDesk.BAD);
        Check.due("shelve(0, 1)", desk.shelve(0, 1), AlarmDesk.BAD);
        Check.due("unshelve(0)", desk.unshelve(0), AlarmDesk.BAD);
        Check.due("replay(0, 0)", desk.replay(0, 0), AlarmDesk.BAD);
        Check.due("leastDeadband(0, 0)", desk.leastDeadband(0, 0), AlarmDesk.BAD);
        Check.due("add(0, 1)", desk.add(0, 1), 0);
    }

    private static void firstFloodNumbers() {
        Check.due("setFlood(1, 1, 1)", new Desk().setFlood(1, 1, 1), 100502);
    }

    private static void firstHighIs5() {
        Desk five = activePoints(5, 0);
        five.tick(1);
        Check.due("plant(2) at the rate 5", five.plant(2), 0);
        Desk six = activePoints(6, 0);
        six.tick(1);
        Check.due("plant(2) at the rate 6", six.plant(2), 1);
    }

    private static void firstLowIs2() {
        Check.due("plant(2) at the rate 2", floodAtTime11(2), 0);
        Check.due("plant(2) at the rate 3", floodAtTime11(3), 1);
    }

    private static void firstWindowIs10() {
        Desk desk = activePoints(6, 0);
        desk.tick(10);
        Check.due("plant(3) at 10", desk.plant(3), 6);
        Check.due("plant(2) at 10", desk.plant(2), 1);
        desk.tick(1);
        Check.due("plant(3) at 11", desk.plant(3), 0);
        Check.due("plant(2) at 11", desk.plant(2), 0);
    }

    /** Six activations at 1 begin a flood; at 11 only those at 5 are in the window. */
    private static int floodAtTime11(int later) {
        Desk desk = activePoints(6, later);
        desk.tick(4);
        for (int k = 0; k < later; k++) {
            desk.setValue(6 + k, 100);
        }
        desk.tick(7);
        Check.due("the rate at 11", desk.plant(3), later);
        return desk.plant(2);
    }

    private static Desk activePoints(int active, int others) {
        Desk desk = new Desk();
        for (int k = 0; k < active + others; k++) {
            desk.add(k < active ? 0 : 100, 2);
        }
        return desk;
    }

    private static void isApartFromOthers() {
        Desk busy = Desks.busy();
        Desk desk = new Desk();
        Check.sameFromNowOn("of a desk beside a busy one", desk, new Desk());
        Check.sameFromNowOn("of a busy desk beside others", busy, Desks.busy());
    }
}
