/** Promise 9: setFlood. */
public final class Promise09SetFloodTest {

    public static void main(String[] args) {
        Check.promise(9, "setFlood");
        leastAndMost();
        outsideTheRanges();
        lowByTheNewHigh();
        isAnAct();
        leavesAllElse();
        floodIsLookedAtByTicksAlone();
        Check.end();
    }

    private static void leastAndMost() {
        Desk desk = new Desk();
        Check.due("setFlood(60, 50, 50)", desk.setFlood(60, 50, 50), 100502);
        Check.due("setFlood(1, 1, 0)", desk.setFlood(1, 1, 0), 605050);
        Check.due("setFlood(1, 1, 1)", desk.setFlood(1, 1, 1), 10100);
        Check.due("setFlood(60, 50, 0)", desk.setFlood(60, 50, 0), 10101);
        Check.due("setFlood(60, 50, 0) again", desk.setFlood(60, 50, 0), 605000);
    }

    private static void outsideTheRanges() {
        Check.outside("setFlood() with the window", 1, 60, Desks::busy,
                (d, x) -> d.setFlood(x, 5, 2));
        Check.outside("setFlood() with high", 1, 50, Desks::busy, (d, x) -> d.setFlood(10, x, 0));
        Check.outside("first setFlood() with high", 1, 50, Desks::fresh,
                (d, x) -> d.setFlood(10, x, 1));
        for (int high : new int[] {1, 2, 5, 50}) {
            Check.outside("setFlood() with high " + high + " and low", 0, high, Desks::busy,
                    (d, x) -> d.setFlood(10, high, x));
        }
        Check.refused("setFlood(61, 51, 52)", AlarmDesk.BAD, Desks::busy,
                d -> d.setFlood(61, 51, 52));
        Check.refused("setFlood(10, 51, 51)", AlarmDesk.BAD, Desks::busy,
                d -> d.setFlood(10, 51, 51));
        Check.refused("setFlood(10, 0, 0)", AlarmDesk.BAD, Desks::busy,
                d -> d.setFlood(10, 0, 0));
    }

    private static void lowByTheNewHigh() {
        Desk desk = new Desk();
        Check.due("setFlood(10, 1, 2): below the high before", desk.setFlood(10, 1, 2),
                AlarmDesk.BAD);
        Check.due("setFlood(10, 9, 9): above the high before", desk.setFlood(10, 9, 9), 100502);
        Check.due("setFlood(10, 1, 1)", desk.setFlood(10, 1, 1), 100909);
    }

    private static void isAnAct() {
        Check.oneAct("setFlood(60, 50, 50)", 200201, Desks::busy, d -> d.setFlood(60, 50, 50));
        Check.oneAct("setFlood(1, 1, 0)", 200201, Desks::busy, d -> d.setFlood(1, 1, 0));
        Check.oneAct("setFlood(20, 2, 1) as it was", 200201, Desks::busy,
                d -> d.setFlood(20, 2, 1));
        Check.oneAct("first setFlood()", 100502, Desks::fresh, d -> d.setFlood(1, 1, 1));
    }

    private static void leavesAllElse() {
        Check.changesOnly("setFlood(20, 50, 50)", Desks::busy, d -> d.setFlood(20, 50, 50));
        Check.changesOnly("setFlood(60, 1, 0)", Desks::busy, d -> d.setFlood(60, 1, 0));
        Check.changesOnly("setFlood(60, 1, 0)", Desks::inAlarmAndCounting,
                d -> d.setFlood(60, 1, 0), "plant(3)");
        Check.changesOnly("setFlood(1, 50, 50)", Desks::busy, d -> d.setFlood(1, 50, 50),
                "plant(3)");
    }

    private static void floodIsLookedAtByTicksAlone() {
        Desk desk = new Desk();
        for (int k = 0; k < 4; k++) {
            desk.add(0, 2);
        }
        desk.tick(1);
        int events = desk.events();
        desk.setFlood(10, 3, 3);
        Check.due("no flood before a tick", desk.plant(2), 0);
        desk.tick(1);
        Check.due("a flood by the tick", desk.plant(2), 1);
        Check.latestEvent(desk, "the tick", 2, 6, AlarmDesk.NONE);
        desk.setFlood(1, 50, 50);
        Check.due("still a flood before a tick", desk.plant(2), 1);
        Check.due("events()", desk.events(), events + 1);
        desk.tick(1);
        Check.due("no flood by the tick", desk.plant(2), 0);
        Check.latestEvent(desk, "the tick", 3, 7, AlarmDesk.NONE);
    }
}
