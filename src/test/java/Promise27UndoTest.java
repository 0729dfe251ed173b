/** Promise 27: undo. */
public final class Promise27UndoTest {

    public static void main(String[] args) {
        Check.promise(27, "undo");
        ofNone();
        statesLeft();
        fourAreKept();
        anActAfterUndo();
        eachActIsOne();
        looksAreNone();
        refusedCallsAreNone();
        leavesTheBuffer();
        restoresPoints();
        restoresThePlant();
        restoresTheFlood();
        restoresSums();
        manyRounds();
        Check.end();
    }

    private static void ofNone() {
        Desk desk = new Desk();
        Check.due("undo() of a new desk", desk.undo(), AlarmDesk.NONE);
        desk.add(1, 2);
        Check.due("undo()", desk.undo(), 0);
        Check.due("undo() of none", desk.undo(), AlarmDesk.NONE);
        Check.due("undo() of none again", desk.undo(), AlarmDesk.NONE);
        Check.refused("undo() of none", AlarmDesk.NONE, Desks::fresh, d -> d.undo());
        Check.refused("undo() of none", AlarmDesk.NONE, () -> {
            Desk busy = Desks.busy();
            Check.statesOf(busy);
            return busy;
        }, d -> d.undo());
    }

    private static void statesLeft() {
        for (int acts = 0; acts <= 7; acts++) {
            Desk desk = new Desk();
            for (int k = 0; k < acts; k++) {
                desk.setState(k % 4);
            }
            int states = Math.min(acts, 4);
            for (int left = states - 1; left >= 0; left--) {
                Check.due("undo() of " + acts + " acts", desk.undo(), left);
            }
            Check.due("undo() of no more acts", desk.undo(), AlarmDesk.NONE);
        }
    }

    private static void fourAreKept() {
        Desk desk = Desks.withPoints(1);
        for (int k = 1; k <= 9; k++) {
            desk.setValue(0, k);
        }
        for (int left = 3; left >= 0; left--) {
            Check.due("undo()", desk.undo(), left);
            Check.due("the value then", desk.point(0, 7), left + 5);
        }
        Check.due("undo()", desk.undo(), AlarmDesk.NONE);
        Check.due("the value then", desk.point(0, 7), 5);
    }

    private static void anActAfterUndo() {
        Desk desk = Desks.withPoints(1);
        for (int k = 1; k <= 6; k++) {
            desk.setValue(0, k);
        }
        desk.undo();
        desk.undo();
        Check.due("the value", desk.point(0, 7), 4);
        desk.setValue(0, 40);
        int[] values = {4, 3, 2};
        for (int k = 0; k < values.length; k++) {
            Check.due("undo()", desk.undo(), 2 - k);
            Check.due("the value then", desk.point(0, 7), values[k]);
        }
        Check.due("undo() of no more acts", desk.undo(), AlarmDesk.NONE);
    }

    private static void eachActIsOne() {
        Check.NumberCall[] acts = {
            (d, k) -> d.add(0, 1), (d, k) -> d.set(2, 1, 5), (d, k) -> d.setRoot(3, 0),
            (d, k) -> d.setValue(2, 5), (d, k) -> d.setState(2), (d, k) -> d.setFlood(20, 2, 1),
            (d, k) -> d.tick(1), (d, k) -> d.ack(k), (d, k) -> d.ackAll(),
            (d, k) -> d.shelve(1, 30), (d, k) -> d.unshelve(1), (d, k) -> d.run()};
        for (int k = 0; k < acts.length; k++) {
            Desk desk = Desks.busy();
            long before = desk.fingerprint();
            Check.due("act " + k + " is no error", acts[k].on(desk, 0) > AlarmDesk.BAD ? 1 : 0, 1);
            long after = desk.fingerprint();
            desk.setState(1);
            desk.setState(3);
            Check.due("undo()", desk.undo(), 3);
            Check.due("undo()", desk.undo(), 2);
            Check.due("fingerprint() after act " + k, desk.fingerprint(), after);
            Check.due("undo() of act " + k, desk.undo(), 1);
            Check.due("fingerprint() before act " + k, desk.fingerprint(), before);
        }
    }

    private static void looksAreNone() {
        Desk desk = Desks.inAlarm(2, 2);
        long print = desk.fingerprint();
        desk.point(0, 0);
        desk.points();
        desk.plant(0);
        desk.list(0);
        desk.count(0);
        desk.events();
        desk.event(0, 0);
        desk.meanAck();
        desk.worst();
        desk.replay(0, 0);
        desk.leastDeadband(0, 0);
        desk.type(48);
        desk.clear();
        desk.fingerprint();
        Check.due("fingerprint() after all looks", desk.fingerprint(), print);
        Check.due("undo() of tick()", desk.undo(), 3);
        Check.due("plant(0)", desk.plant(0), 0);
        Check.due("undo() is no act", desk.undo(), 2);
    }

    private static void refusedCallsAreNone() {
        Desk desk = Desks.busy();
        long print = desk.fingerprint();
        desk.add(0, 0);
        desk.set(0, 7, 0);
        desk.setRoot(0, 0);
        desk.setValue(0, 10001);
        desk.setState(4);
        desk.setFlood(0, 0, 0);
        desk.tick(0);
        desk.ack(2);
        desk.shelve(0, 1);
        desk.unshelve(0);
        Desks.run(desk, "tick 1;tick 0");
        Desks.run(desk, "tick");
        Check.due("fingerprint() after refused calls", desk.fingerprint(), print);
        Desk twin = Desks.busy();
        for (int left = 3; left >= 0; left--) {
            Check.due("undo() after refused calls", desk.undo(), left);
            twin.undo();
            Check.due("fingerprint() then", desk.fingerprint(), twin.fingerprint());
        }
    }

    private static void leavesTheBuffer() {
        Desk desk = new Desk();
        desk.type('t');
        desk.setState(1);
        Desks.type(desk, "ick 7");
        desk.undo();
        Check.due("run() of what was typed before and after the act", desk.run(), 1);
        Check.due("plant(0)", desk.plant(0), 7);
        Check.due("undo() of run()", desk.undo(), 0);
        Check.due("the buffer is empty still", desk.clear(), 0);
    }

    private static void restoresPoints() {
        Desk desk = Desks.busy();
        int[][] before = new int[5][16];
        for (int k = 0; k < 5; k++) {
            for (int what = 0; what <= 15; what++) {
                before[k][what] = desk.point(k, what);
            }
        }
        Desks.run(desk, "set 0=-9;set 1=-9;set 2=7;tick 90;ack 0;ack 1;set 4=1;tick 9;shelve 2:9");
        desk.set(2, 2, 7);
        desk.setRoot(3, -1);
        for (int k = 0; k < 3; k++) {
            desk.undo();
        }
        for (int k = 0; k < 5; k++) {
            for (int what = 0; what <= 15; what++) {
                Check.due("point(" + k + ", " + what + ") after undo()", desk.point(k, what),
                        before[k][what]);
            }
        }
    }

    private static void restoresThePlant() {
        Desk desk = new Desk();
        desk.add(0, 3);
        desk.setFlood(7, 6, 5);
        desk.setState(2);
        desk.tick(3);
        Check.due("setFlood()", desk.setFlood(8, 7, 6), 70605);
        desk.setState(3);
        desk.tick(100);
        desk.undo();
        desk.undo();
        desk.undo();
        int[] due = {3, 2, 0, 1, 1};
        for (int what = 0; what <= 4; what++) {
            Check.due("plant(" + what + ") after undo()", desk.plant(what), due[what]);
        }
        Check.due("setFlood() after undo()", desk.setFlood(9, 8, 7), 70605);
        Check.due("events() after undo()", desk.events(), 1);
        Check.due("replay() after undo()", desk.replay(0, 0), 1);
    }

    /** The flood of the restored state has its own beginning, and its own activations. */
    private static void restoresTheFlood() {
        Desk desk = new Desk();
        desk.add(0, 3);
        desk.add(0, 3);
        desk.setFlood(20, 1, 0);
        desk.tick(5);
        Check.due("in the flood", desk.point(0, 15), 4);
        desk.setFlood(1, 50, 50);
        desk.tick(5);
        Check.due("no flood", desk.plant(2), 0);
        desk.setFlood(20, 1, 0);
        desk.tick(1);
        Check.due("another flood", desk.plant(2), 1);
        Check.due("that began later", desk.point(0, 15), 0);
        for (int k = 0; k < 3; k++) {
            desk.undo();
        }
        Check.due("the first flood again", desk.point(0, 15), 4);
        Desk late = new Desk();
        late.add(0, 3);
        late.setFlood(1, 1, 0);
        late.tick(3);
        late.add(0, 3);
        late.add(0, 3);
        late.tick(1);
        late.setState(1);
        late.undo();
        Check.due("the flood after undo()", late.plant(2), 1);
        Check.due("an activation before the flood", late.point(0, 15), 0);
        Check.due("an activation in the flood", late.point(1, 15), 4);
    }

    private static void restoresSums() {
        Desk desk = Desks.inAlarm(2, 2);
        desk.tick(4);
        desk.ack(0);
        desk.tick(4);
        desk.ack(1);
        Check.due("meanAck()", desk.meanAck(), 6);
        desk.undo();
        Check.due("meanAck() after undo()", desk.meanAck(), 4);
        desk.tick(2);
        desk.ack(1);
        Check.due("meanAck() of 4, 10", desk.meanAck(), 7);
    }

    private static void manyRounds() {
        Desk desk = Desks.withPoints(1);
        for (int round = 0; round < 20; round++) {
            for (int k = 0; k < 5; k++) {
                desk.setValue(0, 10 * round + k);
            }
            for (int left = 3; left >= 0; left--) {
                Check.due("undo()", desk.undo(), left);
                Check.due("the value then", desk.point(0, 7), 10 * round + left);
            }
        }
        Check.due("undo()", desk.undo(), AlarmDesk.NONE);
    }
}
