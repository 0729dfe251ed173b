/** Promise 6: point; which points stand, and why they are hidden. */
public final class Promise06PointTest {

    private static final int NONE = AlarmDesk.NONE;

    public static void main(String[] args) {
        Check.promise(6, "point");
        eachNumber();
        outsideTheRanges();
        numbersThatAreNot0WhenThereAreNone();
        stands();
        whatDoesNotStandIsNotHidden();
        hiddenInStates();
        hiddenBehindARootInAlarm();
        rootThatIsHiddenItself();
        hiddenBehindTheRootOfRoots();
        hiddenInAFlood();
        latestActivationInTheFlood();
        firstReason();
        priority1IsShown();
        Check.end();
    }

    private static void eachNumber() {
        Desk desk = new Desk();
        desk.add(100, 3);
        desk.add(5, 2);
        desk.setRoot(1, 0);
        desk.set(1, 2, 1);
        desk.set(1, 3, 1);
        desk.set(1, 4, 3);
        desk.set(1, 6, 8);
        desk.setValue(1, 5);
        desk.tick(2);
        desk.shelve(1, 7);
        desk.setValue(1, 3);
        desk.tick(2);
        int[] due = {0, 5, 1, 1, 3, 2, 8, 3, 0, 1, 0, 2, 2, 9, 1, 1};
        for (int what = 0; what <= 15; what++) {
            Check.due("point(1, " + what + ")", desk.point(1, what), due[what]);
        }
        Check.due("point() changes nothing", Check.statesOf(desk), 4);
    }

    private static void outsideTheRanges() {
        Check.outsideThePoints("point() of the point", (d, x) -> d.point(x, 0));
        Check.outsideThePoints("point() of the point", (d, x) -> d.point(x, 15));
        Check.outside("point() of what", 0, 15, Desks::busy, (d, x) -> d.point(2, x));
        Check.refused("point(5, 16)", AlarmDesk.BAD, Desks::busy, d -> d.point(5, 16));
    }

    private static void numbersThatAreNot0WhenThereAreNone() {
        Desk desk = Desks.full();
        for (int k = 0; k < 16; k++) {
            Check.due("the root of none", desk.point(k, 8), -1);
            Check.due("acknowledged at first", desk.point(k, 10), 1);
            Check.due("no activation", desk.point(k, 12), 0);
            Check.due("not shelved", desk.point(k, 13), 0);
            Check.due("does not stand", desk.point(k, 15), NONE);
        }
        desk.shelve(15, 1);
        Check.due("shelved at 0 for 1", desk.point(15, 13), 1);
        desk.tick(1);
        Check.due("not shelved any more", desk.point(15, 13), 0);
        desk.set(0, 1, 0);
        desk.tick(1);
        desk.ack(0);
        desk.setValue(0, -1);
        desk.tick(1);
        Check.due("the latest activation stays", desk.point(0, 12), 2);
        Check.due("the number of activations stays", desk.point(0, 14), 1);
    }

    private static void stands() {
        Desk desk = Desks.withPoints(2);
        Check.due("neither in alarm nor open", desk.point(0, 15), NONE);
        desk.setValue(0, 100);
        desk.setValue(1, 100);
        desk.tick(1);
        Check.due("in alarm and not acknowledged", desk.point(0, 15), 0);
        desk.ack(0);
        Check.due("in alarm and acknowledged", desk.point(0, 15), 0);
        desk.setValue(0, 0);
        desk.setValue(1, 0);
        desk.tick(1);
        Check.due("acknowledged, then no longer in alarm", desk.point(0, 15), NONE);
        Check.due("no longer in alarm, not acknowledged", desk.point(1, 15), 0);
        desk.tick(100);
        Check.due("it stands until it is acknowledged", desk.point(1, 15), 0);
        desk.ack(1);
        Check.due("no longer in alarm, then acknowledged", desk.point(1, 15), NONE);
    }

    private static void whatDoesNotStandIsNotHidden() {
        Desk desk = Desks.withPoints(2);
        desk.set(0, 1, 0);
        desk.setRoot(1, 0);
        desk.tick(1);
        desk.set(1, 6, 15);
        Check.due("in a hiding state, behind a root", desk.point(1, 15), NONE);
        desk.shelve(1, 5);
        Check.due("on the shelf", desk.point(1, 15), NONE);
    }

    private static void hiddenInStates() {
        for (int priority = 1; priority <= 4; priority++) {
            Desk desk = Desks.inAlarm(1, priority);
            for (int state = 0; state <= 3; state++) {
                desk.setState(state);
                for (int states = 0; states <= 15; states++) {
                    desk.set(0, 6, states);
                    boolean in = states / (1 << state) % 2 == 1;
                    Check.due("priority " + priority + " in the state " + state + " with " + states,
                            desk.point(0, 15), in && priority != 1 ? 2 : 0);
                }
            }
        }
    }

    private static void hiddenBehindARootInAlarm() {
        for (int priority = 1; priority <= 4; priority++) {
            Desk desk = Desks.inAlarm(2, 1);
            desk.set(1, 5, priority);
            desk.setRoot(1, 0);
            int due = priority == 1 ? 0 : 3;
            Check.due("behind a root in alarm", desk.point(1, 15), due);
            desk.ack(0);
            Check.due("behind an acknowledged root in alarm", desk.point(1, 15), due);
            desk.setRoot(1, -1);
            Check.due("without a root", desk.point(1, 15), 0);
            desk.setRoot(0, 1);
            Check.due("as a root", desk.point(1, 15), 0);
            desk.setRoot(0, -1);
            desk.setRoot(1, 0);
            desk.setValue(0, -1);
            Check.due("before the tick that ends the alarm", desk.point(1, 15), due);
            desk.tick(1);
            Check.due("behind a root that is no longer in alarm", desk.point(1, 15), 0);
        }
        Desk open = Desks.inAlarm(2, 2);
        open.setRoot(1, 0);
        open.setValue(0, -1);
        open.tick(1);
        Check.due("the root stands", open.point(0, 15), 0);
        Check.due("behind a root that stands without alarm", open.point(1, 15), 0);
    }

    private static void rootThatIsHiddenItself() {
        Desk desk = Desks.inAlarm(3, 2);
        desk.setRoot(1, 0);
        desk.shelve(0, 9);
        Check.due("the root is shelved", desk.point(0, 15), 1);
        Check.due("behind a shelved root in alarm", desk.point(1, 15), 3);
        desk.unshelve(0);
        desk.set(0, 6, 1);
        Check.due("the root is hidden in the state", desk.point(0, 15), 2);
        Check.due("behind a root that is hidden", desk.point(1, 15), 3);
        desk.setRoot(0, 2);
        desk.set(0, 6, 0);
        Check.due("the root is behind its root", desk.point(0, 15), 3);
        Check.due("behind both", desk.point(1, 15), 3);
    }

    private static void hiddenBehindTheRootOfRoots() {
        Desk desk = Desks.full();
        for (int k = 1; k < 16; k++) {
            desk.setRoot(k, k - 1);
        }
        desk.setValue(0, 100);
        desk.setValue(15, 100);
        desk.tick(1);
        Check.due("behind the last of 15 roots", desk.point(15, 15), 3);
        Check.due("which is shown", desk.point(0, 15), 0);
        Check.due("its root does not stand", desk.point(14, 15), NONE);
        desk.setValue(0, 0);
        desk.tick(1);
        Check.due("behind no root in alarm", desk.point(15, 15), 0);
        desk.setValue(7, 100);
        desk.tick(1);
        Check.due("behind one in the middle", desk.point(15, 15), 3);
        desk.setRoot(9, -1);
        Check.due("behind a chain that was cut", desk.point(15, 15), 0);
    }

    private static void hiddenInAFlood() {
        Desk desk = new Desk();
        for (int priority = 1; priority <= 4; priority++) {
            desk.add(0, priority);
        }
        desk.setFlood(10, 3, 0);
        desk.tick(1);
        Check.due("a flood", desk.plant(2), 1);
        int[] due = {0, 0, 4, 4};
        for (int k = 0; k < 4; k++) {
            Check.due("in a flood, priority " + (k + 1), desk.point(k, 15), due[k]);
        }
        desk.ack(3);
        Check.due("an acknowledged one in a flood", desk.point(3, 15), 4);
        desk.set(3, 5, 2);
        Check.due("now with the priority 2", desk.point(3, 15), 0);
        desk.set(1, 5, 3);
        Check.due("now with the priority 3", desk.point(1, 15), 4);
        desk.tick(9);
        Check.due("the flood goes on", desk.point(2, 15), 4);
        desk.tick(1);
        Check.due("the flood is over", desk.plant(2), 0);
        Check.due("shown after the flood", desk.point(2, 15), 0);
    }

    /** The flood begins at 4, the time of the activations of 2 and 3. */
    private static void latestActivationInTheFlood() {
        Desk desk = new Desk();
        for (int k = 0; k < 5; k++) {
            desk.add(100, 4);
        }
        desk.setFlood(60, 3, 0);
        for (int k = 0; k < 3; k++) {
            desk.tick(1);
            desk.setValue(k, 100);
        }
        desk.setValue(3, 100);
        desk.tick(1);
        Check.due("plant(2)", desk.plant(2), 1);
        Check.latestEvent(desk, "the flood", 4, 6, NONE);
        desk.setValue(4, 100);
        desk.tick(1);
        int[] due = {0, 0, 4, 4, 4};
        for (int k = 0; k < 5; k++) {
            Check.due("activation at " + desk.point(k, 12) + ", flood at 4", desk.point(k, 15),
                    due[k]);
        }
        desk.setValue(0, 0);
        desk.tick(1);
        Check.due("earlier, and no longer in alarm", desk.point(0, 15), 0);
        desk.setValue(0, 100);
        desk.tick(1);
        Check.due("its latest activation is in the flood", desk.point(0, 15), 4);
    }

    private static void firstReason() {
        Desk desk = new Desk();
        desk.add(0, 3);
        desk.add(0, 3);
        desk.setFlood(10, 1, 0);
        desk.setRoot(1, 0);
        desk.set(1, 6, 2);
        desk.setState(1);
        desk.tick(1);
        desk.shelve(1, 5);
        Check.due("plant(2)", desk.plant(2), 1);
        Check.due("all four reasons", desk.point(1, 15), 1);
        desk.unshelve(1);
        Check.due("the reasons 2 to 4", desk.point(1, 15), 2);
        desk.setState(2);
        Check.due("the reasons 3 and 4", desk.point(1, 15), 3);
        desk.setRoot(1, -1);
        Check.due("the reason 4", desk.point(1, 15), 4);
        desk.set(1, 5, 2);
        Check.due("no reason", desk.point(1, 15), 0);
        desk.shelve(1, 5);
        Check.due("the reason 1", desk.point(1, 15), 1);
    }

    private static void priority1IsShown() {
        Desk desk = new Desk();
        desk.add(0, 1);
        desk.add(0, 1);
        desk.setFlood(10, 1, 0);
        desk.setRoot(1, 0);
        desk.set(1, 6, 15);
        desk.tick(1);
        Check.due("plant(2)", desk.plant(2), 1);
        Check.due("priority 1 with the reasons 2 to 4", desk.point(1, 15), 0);
        desk.ack(1);
        Check.due("acknowledged", desk.point(1, 15), 0);
        for (int priority = 2; priority <= 4; priority++) {
            desk.set(1, 5, priority);
            Check.due("priority " + priority, desk.point(1, 15), 2);
        }
        desk.shelve(1, 5);
        desk.set(1, 5, 1);
        Check.due("taken from the shelf", desk.point(1, 15), 0);
    }
}
