/** Promise 10 (tick): when a flood begins and ends. */
public final class Promise10FloodTest {

    public static void main(String[] args) {
        Check.promise(10, "tick: the flood");
        beginsAboveHigh();
        beginsAboveTheGreatestHigh();
        endsAtLow();
        endsWithTheLeastLow();
        lowAsGreatAsHigh();
        leastWindow();
        greatestWindow();
        allActivationsCount();
        beginsAndEndsOnce();
        beginsAnew();
        Check.end();
    }

    /** So many points of the limit 1 that are not in alarm. */
    private static Desk quiet(int points, int window, int high, int low) {
        Desk desk = new Desk();
        for (int k = 0; k < points; k++) {
            desk.add(1, 2);
        }
        desk.setFlood(window, high, low);
        return desk;
    }

    private static void raise(Desk desk, int from, int to) {
        for (int k = from; k <= to; k++) {
            desk.setValue(k, 1);
        }
        desk.tick(1);
    }

    private static void lower(Desk desk, int from, int to) {
        for (int k = from; k <= to; k++) {
            desk.setValue(k, 0);
        }
        desk.tick(1);
    }

    private static void beginsAboveHigh() {
        for (int high : new int[] {1, 2, 5, 15}) {
            Desk desk = quiet(16, 10, high, 0);
            raise(desk, 0, high - 1);
            Check.due("the rate", desk.plant(3), high);
            Check.due("flood at the rate of high " + high, desk.plant(2), 0);
            Check.due("events()", desk.events(), high);
            raise(desk, high, high);
            Check.due("flood above high " + high, desk.plant(2), 1);
            Check.latestEvent(desk, "the beginning", 2, 6, AlarmDesk.NONE);
            Check.due("events()", desk.events(), high + 2);
        }
    }

    /** 16, 32, 48, 50 and 51 activations, of which more than 30 are not kept as events. */
    private static void beginsAboveTheGreatestHigh() {
        Desk desk = quiet(16, 60, 50, 50);
        for (int round = 0; round < 3; round++) {
            raise(desk, 0, 15);
            lower(desk, 0, 15);
        }
        raise(desk, 0, 1);
        Check.due("the rate", desk.plant(3), 50);
        Check.due("flood at the rate 50", desk.plant(2), 0);
        raise(desk, 2, 2);
        Check.due("the rate", desk.plant(3), 51);
        Check.due("flood at the rate 51", desk.plant(2), 1);
        desk.tick(52);
        Check.due("the rate", desk.plant(3), 51);
        Check.due("flood at the rate 51", desk.plant(2), 1);
        desk.tick(1);
        Check.due("the rate without the first 16", desk.plant(3), 35);
        Check.due("flood at the rate 35", desk.plant(2), 0);
    }

    /** Activations: 4 at 1, then so many at 2; at 4 only those at 2 are in the window. */
    private static int floodAt4(int low, int later) {
        Desk desk = quiet(8, 3, 3, low);
        raise(desk, 0, 3);
        Check.due("a flood", desk.plant(2), 1);
        raise(desk, 4, 3 + later);
        desk.tick(1);
        Check.due("still a flood", desk.plant(2), 1);
        desk.tick(1);
        Check.due("the rate", desk.plant(3), later);
        return desk.plant(2);
    }

    private static void endsAtLow() {
        Check.due("flood below low 2", floodAt4(2, 0), 0);
        Check.due("flood below low 2", floodAt4(2, 1), 0);
        Check.due("flood at low 2", floodAt4(2, 2), 0);
        Check.due("flood above low 2", floodAt4(2, 3), 1);
        Check.due("flood at low 1", floodAt4(1, 1), 0);
        Check.due("flood above low 1", floodAt4(1, 2), 1);
    }

    private static void endsWithTheLeastLow() {
        Check.due("flood at low 0", floodAt4(0, 0), 0);
        Check.due("flood above low 0", floodAt4(0, 1), 1);
    }

    private static void lowAsGreatAsHigh() {
        Check.due("flood at low 3 and high 3", floodAt4(3, 3), 0);
        Check.due("flood above low 3 and high 3", floodAt4(3, 4), 1);
    }

    private static void leastWindow() {
        Desk desk = quiet(2, 1, 1, 0);
        raise(desk, 0, 1);
        Check.due("the rate of this tick", desk.plant(3), 2);
        Check.due("flood", desk.plant(2), 1);
        desk.tick(1);
        Check.due("the rate of the next tick", desk.plant(3), 0);
        Check.due("flood", desk.plant(2), 0);
        Desk apart = quiet(2, 1, 1, 0);
        raise(apart, 0, 0);
        raise(apart, 1, 1);
        Check.due("the rate of one", apart.plant(3), 1);
        Check.due("flood", apart.plant(2), 0);
    }

    private static void greatestWindow() {
        Desk desk = quiet(3, 60, 1, 0);
        raise(desk, 0, 1);
        desk.tick(59);
        Check.due("plant(0)", desk.plant(0), 60);
        Check.due("the rate at 60 of activations at 1", desk.plant(3), 2);
        Check.due("flood at 60", desk.plant(2), 1);
        desk.tick(1);
        Check.due("the rate at 61 of activations at 1", desk.plant(3), 0);
        Check.due("flood at 61", desk.plant(2), 0);
        Check.latestEvent(desk, "the end", 61, 7, AlarmDesk.NONE);
        Desk apart = quiet(2, 60, 1, 0);
        raise(apart, 0, 0);
        apart.tick(58);
        raise(apart, 1, 1);
        Check.due("flood of activations at 1 and 60", apart.plant(2), 1);
        Desk farther = quiet(2, 60, 1, 0);
        raise(farther, 0, 0);
        farther.tick(59);
        raise(farther, 1, 1);
        Check.due("flood of activations at 1 and 61", farther.plant(2), 0);
    }

    /** Those of shelved and hidden points, of all priorities, and of one point again and again. */
    private static void allActivationsCount() {
        Desk desk = new Desk();
        for (int k = 0; k < 4; k++) {
            desk.add(0, k + 1);
        }
        desk.shelve(1, 100);
        desk.set(2, 6, 15);
        desk.setRoot(3, 0);
        desk.setFlood(10, 3, 0);
        desk.tick(1);
        Check.due("the rate of hidden ones", desk.plant(3), 4);
        Check.due("flood of hidden ones", desk.plant(2), 1);
        Desk one = quiet(1, 10, 2, 0);
        Desks.tickValues(one, 0, 1, 0, 1, 0, 1);
        Check.due("the rate of one point", one.plant(3), 3);
        Check.due("flood of one point", one.plant(2), 1);
    }

    private static void beginsAndEndsOnce() {
        Desk desk = quiet(4, 10, 1, 0);
        raise(desk, 0, 1);
        int events = desk.events();
        raise(desk, 2, 2);
        Check.due("events() of a flood that goes on", desk.events(), events + 1);
        desk.tick(100);
        Check.due("events() when it has ended", desk.events(), events + 2);
        desk.tick(100);
        Check.due("events() without a flood", desk.events(), events + 2);
    }

    private static void beginsAnew() {
        Desk desk = quiet(4, 2, 1, 0);
        for (int k = 0; k < 4; k++) {
            desk.set(k, 5, 4);
        }
        raise(desk, 0, 1);
        Check.due("in the first flood", desk.point(0, 15), 4);
        desk.tick(2);
        Check.due("between the floods", desk.point(0, 15), 0);
        raise(desk, 2, 3);
        Check.due("flood", desk.plant(2), 1);
        Check.latestEvent(desk, "the beginning", 4, 6, AlarmDesk.NONE);
        Check.due("before the second flood", desk.point(0, 15), 0);
        Check.due("in the second flood", desk.point(3, 15), 4);
    }
}
