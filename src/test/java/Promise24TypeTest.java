/** Promise 24: type. */
public final class Promise24TypeTest {

    public static void main(String[] args) {
        Check.promise(24, "type");
        leastAndMost();
        outsideTheRange();
        eightyCharacters();
        fullAt80();
        isNoAct();
        appends();
        Check.end();
    }

    private static void leastAndMost() {
        Desk desk = new Desk();
        Check.due("type(32)", desk.type(32), 1);
        Check.due("type(126)", desk.type(126), 2);
        for (int c = 33; c < 110; c++) {
            Check.due("type(" + c + ")", desk.type(c), c - 30);
        }
    }

    private static void outsideTheRange() {
        Check.outside("type()", 32, 126, Desks::busy, (d, x) -> d.type(x));
        Check.outside("type()", 32, 126, Desks::fresh, (d, x) -> d.type(x));
        for (int c : new int[] {0, 10, 128, 255, 256 + 48, 65536 + 48, -65536 + 48}) {
            Check.refused("type(" + c + ")", AlarmDesk.BAD, Desks::busy, d -> d.type(c));
        }
    }

    /** A desk with 80 characters that are a script. */
    private static Desk typedFull() {
        Desk desk = new Desk();
        desk.add(0, 2);
        Desks.type(desk, "tick 1;tick 1;tick 1;tick 1;tick 1;tick 1;tick 1;tick 1;tick 1;tick 1"
                + ";tick 00001");
        return desk;
    }

    private static void eightyCharacters() {
        Desk desk = new Desk();
        for (int k = 1; k <= 80; k++) {
            Check.due("type(48)", desk.type(48), k);
        }
        Check.due("type(48) to 80", desk.type(48), AlarmDesk.FULL);
        Check.due("type(48) to 80 again", desk.type(48), AlarmDesk.FULL);
        Check.due("clear()", desk.clear(), 80);
        Check.due("type(48) after clear()", desk.type(48), 1);
    }

    private static void fullAt80() {
        Check.due("80 characters", typedFull().clear(), 80);
        for (int c : new int[] {32, 48, 59, 126}) {
            Check.refused("type(" + c + ") to 80", AlarmDesk.FULL, Promise24TypeTest::typedFull,
                    d -> d.type(c));
        }
        Check.outside("type() to 80", 32, 126, Promise24TypeTest::typedFull, (d, x) -> d.type(x));
        Desk desk = typedFull();
        desk.type(';');
        Check.due("run() of the 80 characters", desk.run(), 11);
        Check.due("type(48) after run()", desk.type(48), 1);
    }

    private static void isNoAct() {
        Desk desk = new Desk();
        desk.type(48);
        Check.due("undo() after type()", desk.undo(), AlarmDesk.NONE);
        desk.add(0, 1);
        desk.type(48);
        Check.due("undo() of add()", desk.undo(), 0);
        Check.due("the characters stay", desk.clear(), 2);
    }

    private static void appends() {
        Desk desk = new Desk();
        Desks.type(desk, "tick ");
        Check.due("run() too early", desk.run(), -105);
        desk.type('7');
        desk.point(0, 0);
        desk.type('3');
        Check.due("run()", desk.run(), 1);
        Check.due("plant(0)", desk.plant(0), 73);
    }
}
