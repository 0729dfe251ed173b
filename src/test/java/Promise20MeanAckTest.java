/** Promise 20: meanAck. */
public final class Promise20MeanAckTest {

    public static void main(String[] args) {
        Check.promise(20, "meanAck");
        ofNone();
        ofZeros();
        asFloats();
        ofAllWaysToAcknowledge();
        refusedOnesDoNotCount();
        ofMoreThanTheKeptEvents();
        restoredByUndo();
        Check.end();
    }

    private static void ofNone() {
        Desk desk = new Desk();
        Check.due("meanAck() of a new desk", desk.meanAck(), 0);
        desk.add(0, 2);
        desk.tick(9);
        Check.due("meanAck() without acknowledgements", desk.meanAck(), 0);
        desk.undo();
        desk.ackAll();
        Check.due("meanAck() after ackAll() of none", desk.meanAck(), 0);
    }

    private static void ofZeros() {
        Desk desk = Desks.inAlarm(3, 2);
        desk.ackAll();
        Check.due("meanAck() of three times 0", desk.meanAck(), 0);
        desk.setValue(0, -1);
        desk.tick(1);
        desk.setValue(0, 0);
        desk.tick(2);
        desk.ack(0);
        Check.due("meanAck() of 0, 0, 0, 1", desk.meanAck(), 0.25f);
    }

    private static void asFloats() {
        Desk desk = Desks.inAlarm(3, 2);
        desk.ack(0);
        desk.ack(1);
        desk.tick(1);
        desk.ack(2);
        Check.due("meanAck() of 0, 0, 1", desk.meanAck(), 1.0f / 3.0f);
        Desk seven = Desks.inAlarm(7, 2);
        seven.tick(1);
        seven.ack(0);
        seven.tick(100);
        seven.ackAll();
        Check.due("meanAck() of 1 and six times 101", seven.meanAck(), 607.0f / 7.0f);
    }

    private static void ofAllWaysToAcknowledge() {
        Desk desk = Desks.inAlarm(4, 2);
        desk.tick(1);
        desk.ack(0);
        Check.due("meanAck() of 1", desk.meanAck(), 1);
        desk.shelve(3, 100);
        desk.tick(8);
        desk.ackAll();
        Check.due("meanAck() of 1, 9, 9", desk.meanAck(), 19.0f / 3.0f);
        Check.due("run()", Desks.run(desk, "tick 6;ack 3"), 2);
        Check.due("meanAck() of 1, 9, 9, 15", desk.meanAck(), 34.0f / 4.0f);
    }

    private static void refusedOnesDoNotCount() {
        Desk desk = Desks.inAlarm(2, 2);
        desk.tick(4);
        desk.ack(0);
        desk.ack(0);
        desk.ack(2);
        Check.due("meanAck() of 4", desk.meanAck(), 4);
        Check.due("run() that fails", Desks.run(desk, "tick 2;ack 1;ack 1"), -1002);
        Check.due("meanAck() of 4", desk.meanAck(), 4);
    }

    private static void ofMoreThanTheKeptEvents() {
        Desk desk = Desks.withPoints(1);
        for (int k = 0; k < 40; k++) {
            desk.setValue(0, 100);
            desk.tick(k == 0 ? 41 : 1);
            desk.ack(0);
            desk.setValue(0, 0);
            desk.tick(1);
        }
        Check.due("meanAck() of 40 and 39 times 0", desk.meanAck(), 1);
    }

    private static void restoredByUndo() {
        Desk desk = Desks.inAlarm(2, 2);
        desk.tick(3);
        desk.ack(0);
        desk.tick(2);
        desk.ackAll();
        Check.due("meanAck() of 3, 5", desk.meanAck(), 4);
        desk.undo();
        Check.due("meanAck() after undo()", desk.meanAck(), 3);
        desk.undo();
        desk.undo();
        Check.due("meanAck() after undo() of all", desk.meanAck(), 0);
    }
}
