/** Promise 17: count. */
public final class Promise17CountTest {

    public static void main(String[] args) {
        Check.promise(17, "count");
        ofNone();
        outsideTheRange();
        eachCount();
        allSixteen();
        shelvedThatDoNotStand();
        sameAsPoint15();
        Check.end();
    }

    private static void ofNone() {
        for (int what = 0; what <= 7; what++) {
            Check.due("count(" + what + ") without points", new Desk().count(what), 0);
            Check.due("count(" + what + ") of 16", Desks.full().count(what), 0);
        }
    }

    private static void outsideTheRange() {
        Check.outside("count()", 0, 7, Desks::busy, (d, x) -> d.count(x));
        Check.outside("count()", 0, 7, Desks::fresh, (d, x) -> d.count(x));
    }

    /**
     * 0 is shown and acknowledged, 1 shelved, 2 hidden in its state, 3 and 6 behind the root 0, 4
     * in the flood, 5 shelved without an alarm, 7 no longer in alarm, 8 never was.
     */
    private static Desk mixed() {
        Desk desk = new Desk();
        int[] limits = {0, 0, 0, 0, 0, 10, 0, 1, 10};
        for (int k = 0; k < limits.length; k++) {
            desk.add(limits[k], k == 4 ? 4 : 2);
        }
        desk.setFlood(10, 2, 0);
        desk.setRoot(3, 0);
        desk.setRoot(6, 3);
        desk.set(2, 6, 1);
        desk.tick(1);
        desk.shelve(1, 100);
        desk.shelve(5, 100);
        desk.setValue(7, 1);
        desk.tick(1);
        desk.setValue(7, 0);
        desk.tick(1);
        desk.ack(0);
        return desk;
    }

    private static void eachCount() {
        Desk desk = mixed();
        int[] due = {7, 2, 1, 1, 2, 1, 2, 6};
        for (int what = 0; what <= 7; what++) {
            Check.due("count(" + what + ")", desk.count(what), due[what]);
        }
        desk.unshelve(5);
        Check.due("count(6)", desk.count(6), 1);
        desk.set(1, 5, 1);
        Check.due("count(6)", desk.count(6), 0);
        Check.due("count(2)", desk.count(2), 0);
        Check.due("count(1)", desk.count(1), 3);
    }

    private static void allSixteen() {
        Desk desk = Desks.inAlarm(16, 4);
        int[] shown = {16, 16, 0, 0, 0, 0, 0, 16};
        for (int what = 0; what <= 7; what++) {
            Check.due("count(" + what + ") of 16 shown", desk.count(what), shown[what]);
        }
        for (int k = 0; k < 16; k++) {
            desk.shelve(k, 5);
        }
        int[] shelved = {16, 0, 16, 0, 0, 0, 16, 16};
        for (int what = 0; what <= 7; what++) {
            Check.due("count(" + what + ") of 16 shelved", desk.count(what), shelved[what]);
        }
        Desk flood = new Desk();
        for (int k = 0; k < 16; k++) {
            flood.add(0, 4);
        }
        flood.tick(1);
        int[] flooded = {16, 0, 0, 0, 0, 16, 0, 16};
        for (int what = 0; what <= 7; what++) {
            Check.due("count(" + what + ") of 16 in a flood", flood.count(what), flooded[what]);
        }
    }

    private static void shelvedThatDoNotStand() {
        Desk desk = Desks.withPoints(2);
        desk.shelve(1, 5);
        Check.due("count(6)", desk.count(6), 1);
        Check.due("count(2)", desk.count(2), 0);
        Check.due("count(0)", desk.count(0), 0);
        desk.tick(5);
        Check.due("count(6) when the time is over", desk.count(6), 0);
    }

    private static void sameAsPoint15() {
        Desk desk = mixed();
        int[] found = new int[5];
        for (int k = 0; k < 9; k++) {
            int why = desk.point(k, 15);
            if (why != AlarmDesk.NONE) {
                found[why]++;
            }
        }
        for (int why = 0; why <= 4; why++) {
            Check.due("count(" + (why + 1) + ")", desk.count(why + 1), found[why]);
        }
    }
}
