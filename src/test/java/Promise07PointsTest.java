/** Promise 7: points. */
public final class Promise07PointsTest {

    public static void main(String[] args) {
        Check.promise(7, "points");
        fromNoneToAll();
        afterRefusedAdds();
        afterUndo();
        Check.end();
    }

    private static void fromNoneToAll() {
        Desk desk = new Desk();
        for (int k = 0; k <= 16; k++) {
            Check.due("points()", desk.points(), k);
            desk.add(0, 1);
        }
        Check.due("points() after a 17th add()", desk.points(), 16);
    }

    private static void afterRefusedAdds() {
        Desk desk = new Desk();
        desk.add(10001, 1);
        desk.add(0, 5);
        Check.due("points() after refused adds", desk.points(), 0);
        desk.add(0, 4);
        desk.add(0, 0);
        Check.due("points() after one add()", desk.points(), 1);
    }

    private static void afterUndo() {
        Desk desk = Desks.full();
        for (int k = 15; k >= 12; k--) {
            desk.undo();
            Check.due("points() after undo()", desk.points(), k);
        }
        desk.undo();
        Check.due("points() after undo() of none", desk.points(), 12);
    }
}
