/** Promise 21: worst. */
public final class Promise21WorstTest {

    public static void main(String[] args) {
        Check.promise(21, "worst");
        ofNone();
        smallestOfSeveral();
        mostActivations();
        keptOnesAlone();
        lastKeptActivation();
        activationsAlone();
        afterUndo();
        Check.end();
    }

    private static Desk quiet(int points) {
        Desk desk = new Desk();
        desk.setFlood(1, 50, 50);
        for (int k = 0; k < points; k++) {
            desk.add(1, 2);
        }
        return desk;
    }

    /** Two events each time. */
    private static void swing(Desk desk, int point, int times) {
        for (int k = 0; k < times; k++) {
            Desks.tickValues(desk, point, 1, 0);
        }
    }

    private static void ofNone() {
        Desk desk = new Desk();
        Check.due("worst() without points", desk.worst(), AlarmDesk.NONE);
        desk.add(0, 2);
        Check.due("worst() without events", desk.worst(), AlarmDesk.NONE);
        desk.shelve(0, 5);
        Check.due("worst() without activations", desk.worst(), AlarmDesk.NONE);
        desk.tick(1);
        Check.due("worst() of one", desk.worst(), 0);
    }

    private static void smallestOfSeveral() {
        Desk desk = Desks.inAlarm(16, 2);
        Check.due("worst() of 16 alike", desk.worst(), 0);
        Desk some = quiet(16);
        swing(some, 15, 1);
        Check.due("worst() of 15 alone", some.worst(), 15);
        swing(some, 3, 1);
        Check.due("worst() of 15 and 3", some.worst(), 3);
        swing(some, 7, 1);
        Check.due("worst() of 15, 3 and 7", some.worst(), 3);
    }

    private static void mostActivations() {
        Desk desk = quiet(3);
        swing(desk, 0, 1);
        swing(desk, 2, 2);
        Check.due("worst() of 1 and 2", desk.worst(), 2);
        swing(desk, 1, 3);
        Check.due("worst() of 1, 3 and 2", desk.worst(), 1);
        swing(desk, 0, 2);
        Check.due("worst() of 3, 3 and 2", desk.worst(), 0);
    }

    private static void keptOnesAlone() {
        Desk desk = quiet(3);
        swing(desk, 2, 8);
        swing(desk, 0, 7);
        Check.due("worst() of 7, 0 and 8", desk.worst(), 2);
        desk.shelve(1, 1);
        Check.due("worst() of 7, 0 and 7 that are kept", desk.worst(), 0);
        Check.due("all activations of 0", desk.point(0, 14), 7);
        Check.due("all activations of 2", desk.point(2, 14), 8);
    }

    private static void lastKeptActivation() {
        Desk desk = quiet(2);
        desk.setValue(1, 1);
        desk.tick(1);
        for (int k = 0; k < 29; k++) {
            desk.shelve(0, 5);
        }
        Check.due("worst() with the activation as the 30th event", desk.worst(), 1);
        desk.shelve(0, 5);
        Check.due("worst() with the activation as the 31st event", desk.worst(), AlarmDesk.NONE);
        desk.undo();
        Check.due("worst() after undo()", desk.worst(), 1);
    }

    private static void activationsAlone() {
        Desk desk = quiet(3);
        swing(desk, 2, 2);
        desk.setValue(0, 1);
        desk.tick(1);
        desk.ack(0);
        desk.shelve(0, 5);
        desk.shelve(0, 5);
        desk.unshelve(0);
        Check.due("worst() of five other events", desk.worst(), 2);
    }

    private static void afterUndo() {
        Desk desk = quiet(2);
        swing(desk, 1, 2);
        desk.setValue(0, 1);
        desk.tick(1);
        Desks.run(desk, "set 0=0;tick 1;set 0=1;tick 1;set 0=0;tick 1;set 0=1;tick 1");
        Check.due("worst() of 3 and 2", desk.worst(), 0);
        desk.undo();
        Check.due("worst() of 1 and 2 after undo()", desk.worst(), 1);
    }
}
