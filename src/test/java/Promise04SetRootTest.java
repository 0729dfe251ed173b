/** Promise 4: setRoot. */
public final class Promise04SetRootTest {

    public static void main(String[] args) {
        Check.promise(4, "setRoot");
        previousRoots();
        leastAndMost();
        outsideTheRanges();
        ownRoot();
        rootOfRoots();
        longestChain();
        chainThatWasCut();
        badBeforeState();
        isAnAct();
        leavesAllElse();
        Check.end();
    }

    private static void previousRoots() {
        Desk desk = Desks.withPoints(3);
        Check.due("point(1, 8)", desk.point(1, 8), -1);
        Check.due("setRoot(1, 0)", desk.setRoot(1, 0), -1);
        Check.due("setRoot(1, 2)", desk.setRoot(1, 2), 0);
        Check.due("setRoot(1, 2) again", desk.setRoot(1, 2), 2);
        Check.due("point(1, 8)", desk.point(1, 8), 2);
        Check.due("setRoot(1, -1)", desk.setRoot(1, -1), 2);
        Check.due("setRoot(1, -1) again", desk.setRoot(1, -1), -1);
        Check.due("point(1, 8)", desk.point(1, 8), -1);
        Check.due("point(0, 8)", desk.point(0, 8), -1);
        Check.due("point(2, 8)", desk.point(2, 8), -1);
    }

    private static void leastAndMost() {
        Desk desk = Desks.full();
        Check.due("setRoot(15, 0)", desk.setRoot(15, 0), -1);
        Check.due("setRoot(15, 14)", desk.setRoot(15, 14), 0);
        Check.due("setRoot(0, 15)", desk.setRoot(0, 15), -1);
        Check.due("setRoot(0, -1)", desk.setRoot(0, -1), 15);
    }

    private static void outsideTheRanges() {
        Check.outsideThePoints("setRoot() of the point", (d, x) -> d.setRoot(x, -1));
        Check.outside("setRoot() to", -1, 4, Desks::busy, (d, x) -> d.setRoot(2, x));
        Check.outside("setRoot() with 16 points to", -1, 15, Desks::full,
                (d, x) -> d.setRoot(2, x));
    }

    private static void ownRoot() {
        for (int point = 0; point < 5; point++) {
            int p = point;
            Check.refused("setRoot(" + p + ", " + p + ")", AlarmDesk.STATE, Desks::busy,
                    d -> d.setRoot(p, p));
        }
    }

    private static Desk chain() {
        Desk desk = Desks.withPoints(4);
        desk.setRoot(1, 0);
        desk.setRoot(2, 1);
        return desk;
    }

    private static void rootOfRoots() {
        Check.refused("setRoot(0, 1)", AlarmDesk.STATE, Promise04SetRootTest::chain,
                d -> d.setRoot(0, 1));
        Check.refused("setRoot(0, 2)", AlarmDesk.STATE, Promise04SetRootTest::chain,
                d -> d.setRoot(0, 2));
        Check.refused("setRoot(1, 2)", AlarmDesk.STATE, Promise04SetRootTest::chain,
                d -> d.setRoot(1, 2));
        Desk desk = chain();
        Check.due("setRoot(2, 0): past its root", desk.setRoot(2, 0), 1);
        Check.due("setRoot(1, 2): behind its sibling", desk.setRoot(1, 2), 0);
        Check.due("setRoot(3, 1): the same root for more", desk.setRoot(3, 1), -1);
        Check.due("setRoot(0, 3)", desk.setRoot(0, 3), AlarmDesk.STATE);
    }

    /** Each of 16 points has the one before it as its root. */
    private static Desk longChain() {
        Desk desk = Desks.full();
        for (int k = 1; k < 16; k++) {
            desk.setRoot(k, k - 1);
        }
        return desk;
    }

    private static void longestChain() {
        Desk desk = longChain();
        for (int k = 1; k < 16; k++) {
            Check.due("point(" + k + ", 8)", desk.point(k, 8), k - 1);
        }
        for (int root = 0; root < 16; root++) {
            int r = root;
            Check.refused("setRoot(0, " + r + ") in a chain of 16", AlarmDesk.STATE,
                    Promise04SetRootTest::longChain, d -> d.setRoot(0, r));
        }
        for (int point = 0; point < 16; point++) {
            int p = point;
            Check.refused("setRoot(" + p + ", 15) in a chain of 16", AlarmDesk.STATE,
                    Promise04SetRootTest::longChain, d -> d.setRoot(p, 15));
        }
    }

    private static void chainThatWasCut() {
        Desk desk = longChain();
        desk.setRoot(8, -1);
        Check.due("setRoot(0, 7)", desk.setRoot(0, 7), AlarmDesk.STATE);
        Check.due("setRoot(0, 15)", desk.setRoot(0, 15), -1);
        Check.due("setRoot(8, 7)", desk.setRoot(8, 7), AlarmDesk.STATE);
        Check.due("setRoot(0, -1)", desk.setRoot(0, -1), 15);
        Check.due("setRoot(8, 7)", desk.setRoot(8, 7), -1);
    }

    private static void badBeforeState() {
        Check.refused("setRoot(5, 5) of five", AlarmDesk.BAD, Desks::busy, d -> d.setRoot(5, 5));
        Check.refused("setRoot(0, 5) of five", AlarmDesk.BAD, Desks::busy, d -> d.setRoot(0, 5));
        Check.refused("setRoot(-1, -1)", AlarmDesk.BAD, Desks::busy, d -> d.setRoot(-1, -1));
        Check.refused("setRoot(0, 0) of none", AlarmDesk.BAD, Desks::fresh, d -> d.setRoot(0, 0));
    }

    private static void isAnAct() {
        Check.oneAct("setRoot(3, 1)", 0, Desks::busy, d -> d.setRoot(3, 1));
        Check.oneAct("setRoot(3, -1)", 0, Desks::busy, d -> d.setRoot(3, -1));
        Check.oneAct("setRoot(3, 0) as it was", 0, Desks::busy, d -> d.setRoot(3, 0));
        Check.oneAct("setRoot(2, -1) as it was", -1, Desks::busy, d -> d.setRoot(2, -1));
        Check.oneAct("a first root", -1, () -> Desks.withPoints(2), d -> d.setRoot(0, 1));
    }

    private static void leavesAllElse() {
        Check.changesOnly("setRoot(3, 1)", Desks::busy, d -> d.setRoot(3, 1), "point(3, 8)");
        Check.changesOnly("setRoot(3, -1)", Desks::busy, d -> d.setRoot(3, -1), "point(3, 8)",
                "point(3, 15)");
        Check.changesOnly("setRoot(2, 0)", Desks::busy, d -> d.setRoot(2, 0), "point(2, 8)");
        Check.changesOnly("setRoot(1, 0)", Desks::inAlarmAndCounting, d -> d.setRoot(1, 0),
                "point(1, 8)", "point(1, 15)");
        Check.changesOnly("setRoot(1, -1)", Desks::inAlarmAndCounting, d -> d.setRoot(1, -1));
        Check.changesOnly("setRoot(3, 0) as it was", Desks::busy, d -> d.setRoot(3, 0));
    }
}
