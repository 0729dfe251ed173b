/** Promise 5: setValue. */
public final class Promise05SetValueTest {

    public static void main(String[] args) {
        Check.promise(5, "setValue");
        leastAndMost();
        outsideTheRanges();
        isAnAct();
        leavesOtherValues();
        leavesAllElse();
        countsAtTheNextTickAlone();
        Check.end();
    }

    private static void leastAndMost() {
        Desk desk = Desks.withPoints(1);
        Check.due("setValue(0, 10000)", desk.setValue(0, 10000), 0);
        Check.due("point(0, 7)", desk.point(0, 7), 10000);
        Check.due("setValue(0, -10000)", desk.setValue(0, -10000), 10000);
        Check.due("point(0, 7)", desk.point(0, 7), -10000);
        Check.due("setValue(0, -10000) again", desk.setValue(0, -10000), -10000);
        Check.due("setValue(0, 0)", desk.setValue(0, 0), -10000);
    }

    private static void outsideTheRanges() {
        Check.outsideThePoints("setValue() of the point", (d, x) -> d.setValue(x, 1));
        for (int point = 0; point < 5; point++) {
            int p = point;
            Check.outside("setValue() of " + p + " to", -10000, 10000, Desks::busy,
                    (d, x) -> d.setValue(p, x));
        }
        Check.refused("setValue(5, 10001)", AlarmDesk.BAD, Desks::busy, d -> d.setValue(5, 10001));
    }

    private static void isAnAct() {
        Check.oneAct("setValue(2, -10000)", 5, Desks::busy, d -> d.setValue(2, -10000));
        Check.oneAct("setValue(2, 10000)", 5, Desks::busy, d -> d.setValue(2, 10000));
        Check.oneAct("setValue(2, 5) as it was", 5, Desks::busy, d -> d.setValue(2, 5));
        Check.oneAct("second act", 0, () -> Desks.withPoints(1), d -> d.setValue(0, 3));
        Check.oneAct("the previous value -10000", -10000, () -> {
            Desk desk = Desks.withPoints(1);
            desk.setValue(0, -10000);
            return desk;
        }, d -> d.setValue(0, 1));
    }

    private static void leavesOtherValues() {
        Desk desk = Desks.full();
        for (int k = 0; k < 16; k++) {
            desk.setValue(k, k + 1);
        }
        for (int k = 0; k < 16; k++) {
            Check.due("point(" + k + ", 7)", desk.point(k, 7), k + 1);
        }
    }

    /** The points 0 and 3 are in alarm, and 2 counts. */
    private static void leavesAllElse() {
        for (int value : new int[] {-10000, 6, 10000}) {
            for (int point = 0; point < 5; point++) {
                int p = point;
                Check.changesOnly("setValue(" + p + ", " + value + ")", Desks::busy,
                        d -> d.setValue(p, value), "point(" + p + ", 7)");
            }
        }
        Check.changesOnly("setValue(1, 0)", Desks::inAlarmAndCounting, d -> d.setValue(1, 0),
                "point(1, 7)");
        Check.changesOnly("setValue(2, 5) as it was", Desks::busy, d -> d.setValue(2, 5));
    }

    private static void countsAtTheNextTickAlone() {
        Desk desk = Desks.withPoints(1);
        desk.setValue(0, 100);
        Check.due("alarm before a tick", desk.point(0, 9), 0);
        Check.due("count before a tick", desk.point(0, 11), 0);
        Check.due("events() before a tick", desk.events(), 0);
        Check.due("values before a tick", desk.replay(0, 0), 0);
        desk.setValue(0, 0);
        desk.tick(1);
        Check.due("a value that no tick saw", desk.point(0, 9), 0);
        Check.due("is not kept", desk.replay(0, 0), 0);
    }
}
