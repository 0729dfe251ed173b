/** Promise 11: plant. */
public final class Promise11PlantTest {

    public static void main(String[] args) {
        Check.promise(11, "plant");
        eachNumber();
        outsideTheRange();
        rateAtTheFirstTimes();
        rateAtTheEdgeOfTheWindow();
        rateByANewWindow();
        rateOfMoreThanTheKeptEvents();
        rateAfterUndo();
        activationsOfAllTimes();
        Check.end();
    }

    private static void eachNumber() {
        Desk desk = new Desk();
        desk.add(0, 2);
        desk.add(0, 2);
        desk.setState(3);
        desk.setFlood(2, 1, 0);
        desk.tick(2);
        int[] due = {2, 3, 1, 2, 2};
        for (int what = 0; what <= 4; what++) {
            Check.due("plant(" + what + ")", desk.plant(what), due[what]);
        }
        desk.tick(1);
        int[] later = {3, 3, 0, 0, 2};
        for (int what = 0; what <= 4; what++) {
            Check.due("plant(" + what + ") a tick later", desk.plant(what), later[what]);
        }
    }

    private static void outsideTheRange() {
        Check.outside("plant()", 0, 4, Desks::busy, (d, x) -> d.plant(x));
        Check.outside("plant()", 0, 4, Desks::fresh, (d, x) -> d.plant(x));
    }

    private static void rateAtTheFirstTimes() {
        Desk desk = new Desk();
        desk.add(0, 2);
        Check.due("the rate at 0", desk.plant(3), 0);
        desk.setFlood(60, 50, 0);
        Check.due("the rate at 0", desk.plant(3), 0);
        desk.tick(1);
        Check.due("the rate at 1", desk.plant(3), 1);
    }

    private static void rateAtTheEdgeOfTheWindow() {
        for (int window : new int[] {1, 2, 10, 59, 60}) {
            Desk desk = new Desk();
            desk.setFlood(window, 50, 0);
            desk.tick(5);
            desk.add(0, 2);
            desk.tick(1);
            for (int time = 6; time < 6 + window; time++) {
                Check.due("the rate at " + time + " in " + window, desk.plant(3), 1);
                desk.tick(1);
            }
            Check.due("the rate behind the window " + window, desk.plant(3), 0);
            desk.tick(60 - window + 1);
            Check.due("the rate 61 ticks later", desk.plant(3), 0);
        }
    }

    private static Desk swinging() {
        Desk desk = new Desk();
        desk.add(1, 2);
        for (int k = 0; k < 35; k++) {
            Desks.tickValues(desk, 0, 1, 0);
        }
        return desk;
    }

    /** Activations at 1, 3, .. 69; it is 70. */
    private static void rateByANewWindow() {
        Desk desk = swinging();
        Check.due("the rate in 10", desk.plant(3), 5);
        int[] windows = {1, 2, 3, 4, 59, 60};
        int[] due = {0, 1, 1, 2, 29, 30};
        for (int k = 0; k < windows.length; k++) {
            desk.setFlood(windows[k], 50, 0);
            Check.due("the rate in " + windows[k], desk.plant(3), due[k]);
        }
    }

    private static void rateOfMoreThanTheKeptEvents() {
        Desk desk = Desks.full();
        desk.setFlood(60, 50, 0);
        for (int round = 0; round < 2; round++) {
            for (int value = 100; value >= 0; value -= 100) {
                for (int k = 0; k < 16; k++) {
                    desk.setValue(k, value);
                }
                desk.tick(1);
            }
        }
        Check.due("the rate", desk.plant(3), 32);
        for (int k = 0; k < 30; k++) {
            desk.shelve(0, 1);
        }
        Check.due("no activation is kept", desk.worst(), AlarmDesk.NONE);
        Check.due("the rate", desk.plant(3), 32);
        Check.due("all activations", desk.plant(4), 32);
    }

    private static void rateAfterUndo() {
        Desk desk = swinging();
        desk.setFlood(60, 50, 0);
        desk.tick(59);
        Check.due("the rate 60 ticks behind the last", desk.plant(3), 0);
        desk.undo();
        Check.due("the rate after undo()", desk.plant(3), 30);
        desk.tick(58);
        Check.due("the rate 59 ticks behind the last", desk.plant(3), 1);
        desk.undo();
        desk.tick(100);
        desk.undo();
        Check.due("the rate after undo() of 100", desk.plant(3), 30);
    }

    private static void activationsOfAllTimes() {
        Desk desk = swinging();
        Check.due("plant(4)", desk.plant(4), 35);
        desk.add(0, 2);
        desk.tick(1);
        Check.due("plant(4) of two points", desk.plant(4), 36);
        desk.undo();
        Check.due("plant(4) after undo()", desk.plant(4), 35);
    }
}
