/** Promise 25: clear. */
public final class Promise25ClearTest {

    public static void main(String[] args) {
        Check.promise(25, "clear");
        ofNone();
        ofAll();
        afterRun();
        isNoAct();
        leavesNothingBehind();
        Check.end();
    }

    private static void ofNone() {
        Desk desk = new Desk();
        Check.due("clear() of nothing", desk.clear(), 0);
        Check.due("clear() again", desk.clear(), 0);
        desk.type(31);
        Check.due("clear() after a refused type()", desk.clear(), 0);
    }

    private static void ofAll() {
        for (int length : new int[] {1, 2, 79, 80}) {
            Desk desk = new Desk();
            for (int k = 0; k < length; k++) {
                desk.type(32 + k);
            }
            Check.due("clear() of " + length, desk.clear(), length);
            Check.due("clear() again", desk.clear(), 0);
        }
    }

    private static void afterRun() {
        Desk desk = new Desk();
        Desks.type(desk, "tick 0");
        Check.due("run()", desk.run(), -1000);
        Check.due("clear() after run() that fails", desk.clear(), 6);
        Desks.type(desk, "tick");
        Check.due("run()", desk.run(), -104);
        Check.due("clear() after run() with an error place", desk.clear(), 4);
        Desks.type(desk, "tick 1");
        Check.due("run()", desk.run(), 1);
        Check.due("clear() after run()", desk.clear(), 0);
    }

    private static void isNoAct() {
        Desk desk = new Desk();
        desk.type(48);
        desk.clear();
        Check.due("undo() after clear()", desk.undo(), AlarmDesk.NONE);
        desk.add(0, 1);
        desk.type(48);
        desk.clear();
        Check.due("undo() of add()", desk.undo(), 0);
        Check.due("the buffer is empty still", desk.clear(), 0);
        Desk busy = Desks.busy();
        Desk twin = Desks.busy();
        busy.clear();
        Check.due("fingerprint() after clear()", busy.fingerprint(), twin.fingerprint());
        Check.due("undo() after clear()", busy.undo(), 3);
    }

    /** What was in the buffer before does not count for a shorter script. */
    private static void leavesNothingBehind() {
        String full = "set 0=-1;shelve 0:12345;tick 1";
        for (int length = 0; length < full.length(); length++) {
            Desk fresh = Desks.withPoints(1);
            Desk desk = Desks.withPoints(1);
            Desks.type(desk, full);
            desk.clear();
            String part = full.substring(0, length);
            Check.due("run() of '" + part + "' behind another", Desks.run(desk, part),
                    Desks.run(fresh, part));
        }
    }
}
