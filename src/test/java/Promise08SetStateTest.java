/** Promise 8: setState. */
public final class Promise08SetStateTest {

    public static void main(String[] args) {
        Check.promise(8, "setState");
        leastAndMost();
        outsideTheRange();
        isAnAct();
        leavesAllElse();
        Check.end();
    }

    private static void leastAndMost() {
        Desk desk = new Desk();
        Check.due("plant(1)", desk.plant(1), 0);
        int previous = 0;
        for (int state : new int[] {3, 0, 0, 1, 2, 2, 3, 3}) {
            Check.due("setState(" + state + ")", desk.setState(state), previous);
            Check.due("plant(1)", desk.plant(1), state);
            previous = state;
        }
    }

    private static void outsideTheRange() {
        Check.outside("setState()", 0, 3, Desks::busy, (d, x) -> d.setState(x));
        Check.outside("setState()", 0, 3, Desks::fresh, (d, x) -> d.setState(x));
    }

    private static void isAnAct() {
        for (int state = 0; state <= 3; state++) {
            int s = state;
            Check.oneAct("setState(" + s + ") in the state 2", 2, Desks::busy, d -> d.setState(s));
            Check.oneAct("first setState(" + s + ")", 0, Desks::fresh, d -> d.setState(s));
        }
    }

    private static void leavesAllElse() {
        for (int state : new int[] {0, 1, 3}) {
            Check.changesOnly("setState(" + state + ")", Desks::busy, d -> d.setState(state),
                    "plant(1)");
            Check.changesOnly("setState(" + state + ")", Desks::inAlarmAndCounting,
                    d -> d.setState(state), state == 0 ? new String[0] : new String[] {"plant(1)"});
        }
        Check.changesOnly("setState(2) as it was", Desks::busy, d -> d.setState(2));
    }
}
