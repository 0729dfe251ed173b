/** Promise 2: add. */
public final class Promise02AddTest {

    public static void main(String[] args) {
        Check.promise(2, "add");
        leastAndMost();
        outsideTheRanges();
        numbersOfANewPoint();
        sixteenPoints();
        fullAt16();
        roomAfterUndo();
        isAnAct();
        leavesTheOthers();
        laterPointBeginsAnew();
        pointOfAnUndoneAddIsForgotten();
        Check.end();
    }

    private static void leastAndMost() {
        Desk desk = new Desk();
        Check.due("add(-10000, 1)", desk.add(-10000, 1), 0);
        Check.due("add(10000, 4)", desk.add(10000, 4), 1);
        Check.due("points()", desk.points(), 2);
        Check.due("point(0, 1)", desk.point(0, 1), -10000);
        Check.due("point(0, 5)", desk.point(0, 5), 1);
        Check.due("point(1, 1)", desk.point(1, 1), 10000);
        Check.due("point(1, 5)", desk.point(1, 5), 4);
    }

    private static void outsideTheRanges() {
        Check.outside("add() with the limit", -10000, 10000, Desks::busy, (d, x) -> d.add(x, 1));
        Check.outside("add() with the priority", 1, 4, Desks::busy, (d, x) -> d.add(0, x));
        Check.outside("first add() with the limit", -10000, 10000, Desks::fresh,
                (d, x) -> d.add(x, 4));
        Check.outside("first add() with the priority", 1, 4, Desks::fresh, (d, x) -> d.add(0, x));
        Check.refused("add(10001, 5)", AlarmDesk.BAD, Desks::busy, d -> d.add(10001, 5));
    }

    private static void numbersOfANewPoint() {
        Desk desk = new Desk();
        desk.add(7, 2);
        desk.add(10000, 4);
        int[] due = {0, 10000, 0, 0, 0, 4, 0, 0, -1, 0, 1, 0, 0, 0, 0, AlarmDesk.NONE};
        for (int what = 0; what <= 15; what++) {
            Check.due("point(1, " + what + ") of a new point", desk.point(1, what), due[what]);
        }
        Check.due("events()", desk.events(), 0);
    }

    private static void sixteenPoints() {
        Desk desk = new Desk();
        for (int k = 0; k < 16; k++) {
            Check.due("add() to " + k, desk.add(k, 2), k);
            Check.due("points()", desk.points(), k + 1);
        }
        for (int k = 0; k < 16; k++) {
            Check.due("point(" + k + ", 1)", desk.point(k, 1), k);
        }
    }

    private static void fullAt16() {
        Check.refused("add() to 16", AlarmDesk.FULL, Desks::full, d -> d.add(0, 1));
        Check.refused("add() to 16 again", AlarmDesk.FULL, Desks::full, d -> {
            d.add(0, 1);
            return d.add(0, 1);
        });
        Check.outside("add() to 16 with the limit", -10000, 10000, Desks::full,
                (d, x) -> d.add(x, 1));
        Check.outside("add() to 16 with the priority", 1, 4, Desks::full, (d, x) -> d.add(0, x));
    }

    private static void roomAfterUndo() {
        Desk desk = Desks.full();
        desk.undo();
        Check.due("points()", desk.points(), 15);
        Check.due("add() after undo()", desk.add(7, 3), 15);
        Check.due("its limit", desk.point(15, 1), 7);
        Check.due("add() to 16", desk.add(8, 3), AlarmDesk.FULL);
    }

    private static void isAnAct() {
        Check.oneAct("add() to none", 0, Desks::fresh, d -> d.add(1, 1));
        Check.oneAct("add() to five", 5, Desks::busy, d -> d.add(1, 1));
        Check.oneAct("add() to 15", 15, () -> Desks.withPoints(15), d -> d.add(1, 1));
    }

    private static void leavesTheOthers() {
        Check.changesOnly("add(0, 1)", Desks::busy, d -> d.add(0, 1), "points()");
        Check.changesOnly("add(100, 4)", Desks::busy, d -> d.add(100, 4), "points()");
        Check.changesOnly("add(0, 2)", Desks::inAlarmAndCounting, d -> d.add(0, 2), "points()");
    }

    private static void laterPointBeginsAnew() {
        Desk desk = new Desk();
        desk.tick(50);
        desk.add(0, 2);
        Check.due("not in alarm before a tick", desk.point(0, 9), 0);
        Check.due("no value is put down", desk.replay(0, 0), 0);
        desk.tick(1);
        Check.due("in alarm by the tick", desk.point(0, 9), 1);
        Check.due("one value is put down", desk.replay(0, 0), 1);
        desk.set(0, 3, 1);
        Check.due("and no more than one", desk.replay(0, 0), 0);
    }

    /** No point is left, but many a row inside the desk may have held one. */
    private static void pointOfAnUndoneAddIsForgotten() {
        int[] due = {0, 7, 0, 0, 0, 4, 0, 0, -1, 0, 1, 0, 0, 0, 0, AlarmDesk.NONE};
        for (int acts = 0; acts <= 4; acts++) {
            for (int undos = 0; undos <= acts; undos++) {
                Desk desk = deskWithPointsUndone(acts, undos);
                String after = " after " + acts + " acts and " + undos + " undos";
                Check.due("add()" + after, desk.add(7, 4), 0);
                for (int what = 0; what <= 15; what++) {
                    Check.due("point(0, " + what + ")" + after, desk.point(0, what), due[what]);
                }
                Check.due("values" + after, desk.replay(0, 0), 0);
                desk.set(0, 1, 0);
                desk.tick(1);
                Check.due("one value" + after, desk.replay(0, 0), 1);
                desk.set(0, 3, 1);
                Check.due("and no other" + after, desk.replay(0, 0), 0);
            }
        }
    }

    private static Desk deskWithPointsUndone(int acts, int undos) {
        Desk desk = new Desk();
        for (int round = 0; round < 3; round++) {
            desk.add(100, 3);
            desk.set(0, 0, 1);
            desk.set(0, 4, 5);
            Desks.run(desk, "set 0=-9;tick 3;shelve 0:20;set 0=500;tick 2");
            for (int k = 0; k < 4; k++) {
                desk.undo();
            }
            Check.due("points()", desk.points(), 0);
            for (int k = 0; k < acts; k++) {
                desk.setState(k % 4);
            }
            for (int k = 0; k < undos; k++) {
                desk.undo();
            }
        }
        return desk;
    }
}
