/** Promises 27 and 28: undo, fingerprint. */
public final class HistoryTest {

    interface Act {
        int on(AlarmDesk desk);
    }

    public static void main(String[] args) {
        undone();
        fourAreKept();
        everyActIsKept();
        everythingIsRestored();
        countsAndFloodsAreRestored();
        addAfterUndoIsNew();
        looksAreNoActs();
        fingerprintOfANewDesk();
        fingerprintByItsNumbers();
        Check.end();
    }

    private static void undone() {
        AlarmDesk desk = new AlarmDesk();
        Check.due("undo() of none", desk.undo(), AlarmDesk.NONE);
        desk.add(1, 2);
        desk.setValue(0, 5);
        Check.due("undo()", desk.undo(), 1);
        Check.due("point(0, 7)", desk.point(0, 7), 0);
        desk.setValue(0, 6);
        Check.due("undo() after another act", desk.undo(), 1);
        Check.due("undo()", desk.undo(), 0);
        Check.due("points()", desk.points(), 0);
        Check.due("undo() of none", desk.undo(), AlarmDesk.NONE);
    }

    private static void fourAreKept() {
        AlarmDesk desk = new AlarmDesk();
        desk.add(100, 2);
        for (int k = 1; k <= 9; k++) {
            desk.setValue(0, k);
        }
        for (int left = 3; left >= 0; left--) {
            Check.due("undo()", desk.undo(), left);
            Check.due("the value then", desk.point(0, 7), left + 5);
        }
        Check.due("undo()", desk.undo(), AlarmDesk.NONE);
        Check.due("the value then", desk.point(0, 7), 5);
    }

    private static AlarmDesk busyDesk() {
        AlarmDesk desk = new AlarmDesk();
        desk.add(0, 2);
        desk.add(0, 3);
        desk.tick(1);
        desk.shelve(1, 9);
        return desk;
    }

    private static void everyActIsKept() {
        Act[] acts = {
            d -> d.add(0, 1), d -> d.set(0, 1, 5), d -> d.set(0, 0, 0), d -> d.setRoot(0, 1),
            d -> d.setRoot(0, -1), d -> d.setValue(0, 0), d -> d.setState(0), d -> d.setState(1),
            d -> d.setFlood(10, 5, 2), d -> d.tick(1), d -> d.ack(0), d -> d.ackAll(),
            d -> d.shelve(0, 1), d -> d.unshelve(1), d -> Check.run(d, "tick 1;ack 0"),
        };
        for (int k = 0; k < acts.length; k++) {
            AlarmDesk desk = new AlarmDesk();
            desk.add(0, 2);
            desk.add(0, 3);
            Check.run(desk, "tick 1;shelve 1:9");
            long print = desk.fingerprint();
            Check.due("act " + k + " is no error", acts[k].on(desk) > AlarmDesk.BAD ? 1 : 0, 1);
            Check.due("undo() of act " + k, desk.undo(), 3);
            Check.due("fingerprint() after undo of act " + k, desk.fingerprint(), print);
        }
    }

    private static void everythingIsRestored() {
        AlarmDesk desk = busyDesk();
        desk.setFlood(7, 6, 5);
        desk.tick(3);
        Check.due("setFlood()", desk.setFlood(8, 7, 6), 70605);
        desk.undo();
        Check.due("setFlood() after undo", desk.setFlood(9, 8, 7), 70605);
        desk.ack(0);
        desk.undo();
        Check.due("meanAck() after undo", desk.meanAck(), 0);
        int replayed = desk.replay(0, 0);
        int rate = desk.plant(3);
        desk.tick(100);
        desk.undo();
        Check.due("replay() after undo", desk.replay(0, 0), replayed);
        Check.due("rate after undo", desk.plant(3), rate);
        desk.undo();
        desk.undo();
        Check.due("time after undos", desk.plant(0), 1);
    }

    private static void countsAndFloodsAreRestored() {
        AlarmDesk desk = new AlarmDesk();
        desk.add(0, 3);
        desk.add(0, 3);
        desk.add(0, 3);
        desk.set(2, 3, 5);
        desk.setFlood(20, 1, 0);
        desk.tick(3);
        desk.tick(2);
        desk.setValue(2, -1);
        Check.due("count", desk.point(2, 11), 5);
        desk.undo();
        desk.undo();
        Check.due("count after undo", desk.point(2, 11), 3);
        Check.due("the flood", desk.point(0, 15), 4);
        desk.setFlood(1, 50, 50);
        desk.tick(5);
        Check.due("no flood", desk.plant(2), 0);
        desk.setFlood(20, 1, 0);
        desk.tick(1);
        Check.due("another flood", desk.plant(2), 1);
        Check.due("that began later", desk.point(0, 15), 0);
        Check.due("undo()", desk.undo(), 3);
        desk.undo();
        desk.undo();
        Check.due("the first flood again", desk.point(0, 15), 4);
        desk.undo();
        Check.due("and again", desk.point(0, 15), 4);
        AlarmDesk late = new AlarmDesk();
        late.add(0, 3);
        late.setFlood(1, 1, 0);
        late.tick(3);
        late.add(0, 3);
        late.add(0, 3);
        late.tick(1);
        late.setState(1);
        late.undo();
        Check.due("the flood after undo", late.plant(2), 1);
        Check.due("an activation before the flood", late.point(0, 15), 0);
        Check.due("an activation in the flood", late.point(1, 15), 4);
    }

    private static void addAfterUndoIsNew() {
        int[] due = {0, 7, 0, 0, 0, 4, 0, 0, -1, 0, 1, 0, 0, 0, 0, AlarmDesk.NONE};
        for (int acts = 0; acts <= 4; acts++) {
            for (int undos = 0; undos <= acts; undos++) {
                AlarmDesk desk = deskWithPointsUndone(acts, undos);
                String after = " after " + acts + " acts and " + undos + " undos";
                Check.due("add()" + after, desk.add(7, 4), 0);
                for (int what = 0; what <= 15; what++) {
                    Check.due("point(0, " + what + ")" + after, desk.point(0, what), due[what]);
                }
                Check.due("values of a new point" + after, desk.replay(0, 0), 0);
                desk.set(0, 1, 0);
                desk.tick(1);
                Check.due("one value" + after, desk.replay(0, 0), 1);
                desk.set(0, 3, 1);
                Check.due("and no other" + after, desk.replay(0, 0), 0);
            }
        }
    }

    /** No point is left, but many a row inside has held one. */
    private static AlarmDesk deskWithPointsUndone(int acts, int undos) {
        AlarmDesk desk = new AlarmDesk();
        for (int round = 0; round < 3; round++) {
            desk.add(100, 3);
            desk.set(0, 0, 1);
            desk.set(0, 4, 5);
            Check.run(desk, "set 0=-9;tick 3;shelve 0:20;set 0=500;tick 2");
            for (int k = 0; k < 4; k++) {
                desk.undo();
            }
            Check.due("points()", desk.points(), 0);
            for (int k = 0; k < acts; k++) {
                desk.setState(k % 4);
            }
            for (int k = 0; k < undos; k++) {
                desk.undo();
            }
        }
        return desk;
    }

    private static void looksAreNoActs() {
        AlarmDesk desk = new AlarmDesk();
        desk.add(0, 2);
        desk.point(0, 0);
        desk.points();
        desk.plant(0);
        desk.list(0);
        desk.count(0);
        desk.events();
        desk.event(0, 0);
        desk.meanAck();
        desk.worst();
        desk.replay(0, 0);
        desk.leastDeadband(0, 0);
        desk.type(48);
        desk.clear();
        desk.run();
        desk.fingerprint();
        Check.history(desk, "add", 1);
    }

    private static void fingerprintOfANewDesk() {
        // 157, then the seven zeros of plant() 0 to 4, points() and events()
        long due = 157L * 31 * 31 * 31 * 31 * 31 * 31 * 31;
        Check.due("fingerprint() of a new desk", new AlarmDesk().fingerprint(), due);
    }

    private static void fingerprintByItsNumbers() {
        AlarmDesk desk = busyDesk();
        Check.due("fingerprint()", desk.fingerprint(), byNumbers(desk));
        desk.setFlood(3, 1, 0);
        for (int k = 0; k < 40; k++) {
            desk.setValue(0, k % 2 - 1);
            desk.tick(1);
            desk.setState(k % 4);
            Check.due("fingerprint()", desk.fingerprint(), byNumbers(desk));
        }
    }

    private static long byNumbers(AlarmDesk desk) {
        long print = 157;
        for (int what = 0; what <= 4; what++) {
            print = print * 31 + desk.plant(what);
        }
        print = print * 31 + desk.points();
        for (int k = 0; k < desk.points(); k++) {
            for (int what = 0; what <= 15; what++) {
                print = print * 31 + desk.point(k, what);
            }
        }
        print = print * 31 + desk.events();
        for (int k = 0; k < 30 && k < desk.events(); k++) {
            for (int what = 0; what <= 2; what++) {
                print = print * 31 + desk.event(k, what);
            }
        }
        return print;
    }
}
