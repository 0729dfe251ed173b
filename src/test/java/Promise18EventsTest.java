/** Promise 18: events. */
public final class Promise18EventsTest {

    public static void main(String[] args) {
        Check.promise(18, "events");
        ofNone();
        acrossTheKeptOnes();
        manyInOneTick();
        callsWithoutEvents();
        afterUndo();
        Check.end();
    }

    private static void ofNone() {
        Desk desk = new Desk();
        Check.due("events()", desk.events(), 0);
        desk.tick(100);
        Check.due("events() after ticks", desk.events(), 0);
    }

    private static void acrossTheKeptOnes() {
        Desk desk = Desks.withPoints(1);
        for (int k = 1; k <= 65; k++) {
            desk.shelve(0, 5);
            Check.due("events()", desk.events(), k);
        }
    }

    private static void manyInOneTick() {
        Desk desk = new Desk();
        for (int k = 0; k < 16; k++) {
            desk.add(0, 2);
            desk.shelve(k, 1);
        }
        desk.tick(1);
        Check.due("events() of 16 + 16 + 16 + 1", desk.events(), 49);
    }

    private static void callsWithoutEvents() {
        Desk desk = Desks.busy();
        int events = desk.events();
        desk.add(0, 1);
        desk.set(0, 1, 5);
        desk.setRoot(1, 0);
        desk.setValue(0, 3);
        desk.setState(1);
        desk.setFlood(1, 1, 1);
        desk.shelve(0, 1);
        desk.unshelve(0);
        desk.ack(2);
        Check.due("events()", desk.events(), events);
    }

    private static void afterUndo() {
        Desk desk = Desks.withPoints(1);
        for (int k = 0; k < 40; k++) {
            desk.shelve(0, 5);
        }
        desk.undo();
        desk.undo();
        Check.due("events() after undo()", desk.events(), 38);
        desk.unshelve(0);
        Check.due("events() after another one", desk.events(), 39);
    }
}
