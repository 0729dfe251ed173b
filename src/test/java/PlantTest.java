/** Promises 8 to 11: setState, setFlood, tick, plant; what a tick does, and hiding. */
public final class PlantTest {

    public static void main(String[] args) {
        states();
        floodNumbers();
        ticks();
        lastTime();
        highPoint();
        lowPoint();
        delays();
        countsAgain();
        lowDeadband();
        activationAgainBeforeAck();
        shelfEnds();
        orderWithinATick();
        hiddenInStates();
        hiddenBehindRoots();
        reasonsInOrder();
        highestPriorityIsNeverHidden();
        floodBeginsAndEnds();
        floodEndsBelowLow();
        floodHides();
        rateByWindow();
        numbersOfThePlant();
        Check.end();
    }

    private static void states() {
        AlarmDesk desk = new AlarmDesk();
        Check.due("setState(3)", desk.setState(3), 0);
        Check.due("setState(0)", desk.setState(0), 3);
        Check.due("setState(0) again", desk.setState(0), 0);
        Check.due("setState(2)", desk.setState(2), 0);
        Check.due("plant(1)", desk.plant(1), 2);
        Check.refused(desk, "setState(4)", AlarmDesk.BAD, () -> desk.setState(4));
        Check.refused(desk, "setState(-1)", AlarmDesk.BAD, () -> desk.setState(-1));
        Check.history(desk, "states", 4);
    }

    private static void floodNumbers() {
        AlarmDesk desk = new AlarmDesk();
        Check.due("setFlood(60, 50, 50)", desk.setFlood(60, 50, 50), 100502);
        Check.due("setFlood(1, 1, 0)", desk.setFlood(1, 1, 0), 605050);
        Check.due("setFlood(1, 1, 1)", desk.setFlood(1, 1, 1), 10100);
        Check.refused(desk, "setFlood(0, 1, 0)", AlarmDesk.BAD, () -> desk.setFlood(0, 1, 0));
        Check.refused(desk, "setFlood(61, 1, 0)", AlarmDesk.BAD, () -> desk.setFlood(61, 1, 0));
        Check.refused(desk, "setFlood(1, 0, 0)", AlarmDesk.BAD, () -> desk.setFlood(1, 0, 0));
        Check.refused(desk, "setFlood(1, 51, 0)", AlarmDesk.BAD, () -> desk.setFlood(1, 51, 0));
        Check.refused(desk, "setFlood(1, 3, 4)", AlarmDesk.BAD, () -> desk.setFlood(1, 3, 4));
        Check.refused(desk, "setFlood(1, 3, -1)", AlarmDesk.BAD, () -> desk.setFlood(1, 3, -1));
        Check.due("setFlood(2, 2, 2)", desk.setFlood(2, 2, 2), 10101);
        Check.history(desk, "flood numbers", 4);
    }

    private static void ticks() {
        AlarmDesk desk = new AlarmDesk();
        Check.due("tick(1)", desk.tick(1), 1);
        Check.due("tick(100)", desk.tick(100), 101);
        Check.refused(desk, "tick(0)", AlarmDesk.BAD, () -> desk.tick(0));
        Check.refused(desk, "tick(-1)", AlarmDesk.BAD, () -> desk.tick(-1));
        Check.refused(desk, "tick(101)", AlarmDesk.BAD, () -> desk.tick(101));
        Check.refused(desk, "tick(MAX)", AlarmDesk.BAD, () -> desk.tick(Integer.MAX_VALUE));
        Check.due("undo() of tick(100)", desk.undo(), 1);
        Check.due("plant(0) after undo", desk.plant(0), 1);
        Check.history(desk, "ticks", 1);
    }

    private static void lastTime() {
        AlarmDesk desk = new AlarmDesk();
        for (int k = 0; k < 99; k++) {
            desk.tick(100);
        }
        Check.due("tick(99)", desk.tick(99), 9999);
        Check.refused(desk, "tick(2) at 9999", AlarmDesk.STATE, () -> desk.tick(2));
        Check.refused(desk, "tick(101) at 9999", AlarmDesk.BAD, () -> desk.tick(101));
        Check.due("tick(1) at 9999", desk.tick(1), 10000);
        Check.refused(desk, "tick(1) at 10000", AlarmDesk.STATE, () -> desk.tick(1));
        Check.refused(desk, "tick(0) at 10000", AlarmDesk.BAD, () -> desk.tick(0));
        Check.history(desk, "ticks", 4);
    }

    private static void highPoint() {
        AlarmDesk desk = new AlarmDesk();
        desk.add(10, 2);
        desk.set(0, 2, 3);
        desk.setValue(0, 9);
        desk.tick(1);
        Check.due("9 is not over 10", desk.point(0, 9), 0);
        desk.setValue(0, 10);
        desk.tick(1);
        Check.due("10 is over 10", desk.point(0, 9), 1);
        Check.latestEvent(desk, "activation", 2, 1, 0);
        desk.setValue(0, 7);
        desk.tick(1);
        Check.due("7 is not clear with the deadband 3", desk.point(0, 9), 1);
        desk.setValue(0, 6);
        desk.tick(1);
        Check.due("6 is clear with the deadband 3", desk.point(0, 9), 0);
        Check.latestEvent(desk, "end of the alarm", 4, 2, 0);
    }

    private static void lowPoint() {
        AlarmDesk desk = new AlarmDesk();
        desk.add(-10, 2);
        desk.set(0, 0, 1);
        desk.setValue(0, -9);
        desk.tick(1);
        Check.due("-9 is not over for low -10", desk.point(0, 9), 0);
        desk.setValue(0, -10);
        desk.tick(1);
        Check.due("-10 is over for low -10", desk.point(0, 9), 1);
        desk.tick(1);
        Check.due("-10 is not clear", desk.point(0, 9), 1);
        desk.setValue(0, -9);
        desk.tick(1);
        Check.due("-9 is clear with the deadband 0", desk.point(0, 9), 0);
    }

    private static void lowDeadband() {
        AlarmDesk desk = new AlarmDesk();
        desk.add(0, 2);
        desk.set(0, 0, 1);
        desk.set(0, 2, 4);
        desk.tick(1);
        desk.setValue(0, 4);
        desk.tick(1);
        Check.due("4 is not clear for low 0 and the deadband 4", desk.point(0, 9), 1);
        desk.setValue(0, 5);
        desk.tick(1);
        Check.due("5 is clear for low 0 and the deadband 4", desk.point(0, 9), 0);
    }

    private static void delays() {
        AlarmDesk desk = new AlarmDesk();
        desk.add(0, 2);
        desk.set(0, 3, 20);
        desk.set(0, 4, 20);
        desk.tick(20);
        Check.due("20 ticks with the delay 20", desk.point(0, 9), 0);
        Check.due("their count", desk.point(0, 11), 20);
        desk.tick(1);
        Check.due("21 ticks with the delay 20", desk.point(0, 9), 1);
        Check.due("the count is 0", desk.point(0, 11), 0);
        Check.due("the time of the activation", desk.point(0, 12), 21);
        desk.setValue(0, -1);
        desk.tick(20);
        Check.due("20 clear ticks with the delay 20", desk.point(0, 9), 1);
        Check.due("their count", desk.point(0, 11), 20);
        desk.tick(1);
        Check.due("21 clear ticks with the delay 20", desk.point(0, 9), 0);
        Check.due("the count is 0", desk.point(0, 11), 0);
    }

    private static void countsAgain() {
        AlarmDesk desk = new AlarmDesk();
        desk.add(0, 2);
        desk.set(0, 2, 5);
        desk.set(0, 3, 2);
        desk.set(0, 4, 2);
        desk.tick(2);
        desk.setValue(0, -1);
        desk.tick(1);
        Check.due("count after a value that is not over", desk.point(0, 11), 0);
        desk.setValue(0, 0);
        desk.tick(3);
        Check.due("in alarm", desk.point(0, 9), 1);
        desk.setValue(0, -6);
        desk.tick(2);
        desk.setValue(0, -5);
        desk.tick(1);
        Check.due("count after a value within the deadband", desk.point(0, 11), 0);
        Check.due("still in alarm", desk.point(0, 9), 1);
    }

    private static void activationAgainBeforeAck() {
        AlarmDesk desk = new AlarmDesk();
        desk.add(1, 2);
        for (int value = 1; value >= -1; value--) {
            desk.setValue(0, value * value);
            desk.tick(1);
        }
        Check.due("two activations", desk.point(0, 14), 2);
        Check.due("the latest one", desk.point(0, 12), 3);
        Check.due("ack(0) tells of the latest one", desk.ack(0), 0);
    }

    private static void shelfEnds() {
        AlarmDesk desk = new AlarmDesk();
        desk.add(100, 2);
        desk.add(100, 2);
        desk.shelve(1, 2);
        desk.shelve(0, 2);
        desk.tick(1);
        Check.due("still shelved", desk.point(0, 13), 2);
        desk.tick(1);
        Check.due("not shelved any more", desk.point(0, 13), 0);
        Check.due("events()", desk.events(), 4);
        Check.latestEvent(desk, "the shelf in ascending order", 2, 5, 1);
        Check.due("event(1, 2)", desk.event(1, 2), 0);
        Check.due("event(1, 1)", desk.event(1, 1), 5);
    }

    private static void orderWithinATick() {
        AlarmDesk desk = new AlarmDesk();
        desk.setFlood(5, 1, 0);
        desk.add(0, 2);
        desk.add(1, 2);
        desk.add(0, 2);
        desk.setValue(1, 1);
        desk.tick(1);
        desk.undo();
        desk.shelve(0, 1);
        desk.tick(1);
        int[] kinds = {4, 1, 1, 1, 5, 6};
        int[] points = {0, 0, 1, 2, 0, AlarmDesk.NONE};
        Check.due("events()", desk.events(), kinds.length);
        for (int k = 0; k < kinds.length; k++) {
            Check.due("kind of event " + k, desk.event(kinds.length - 1 - k, 1), kinds[k]);
            Check.due("point of event " + k, desk.event(kinds.length - 1 - k, 2), points[k]);
        }
    }

    private static void hiddenInStates() {
        AlarmDesk desk = new AlarmDesk();
        desk.add(0, 2);
        desk.tick(1);
        for (int state = 0; state <= 3; state++) {
            desk.setState(state);
            for (int states = 0; states <= 15; states++) {
                desk.set(0, 6, states);
                int due = (states & 1 << state) != 0 ? 2 : 0;
                Check.due("state " + state + " in " + states, desk.point(0, 15), due);
            }
        }
    }

    private static void hiddenBehindRoots() {
        AlarmDesk desk = new AlarmDesk();
        desk.add(0, 2);
        desk.add(100, 2);
        desk.add(0, 2);
        desk.setRoot(2, 1);
        desk.setRoot(1, 0);
        desk.tick(1);
        Check.due("behind the root of its root", desk.point(2, 15), 3);
        Check.due("the root of all is shown", desk.point(0, 15), 0);
        Check.due("its root does not stand", desk.point(1, 15), AlarmDesk.NONE);
        desk.setValue(0, -1);
        desk.tick(1);
        Check.due("a root that only stands hides nothing", desk.point(2, 15), 0);
        Check.due("but it stands", desk.point(0, 15), 0);
        desk.setValue(1, 100);
        desk.tick(1);
        Check.due("behind its own root", desk.point(2, 15), 3);
        desk.setRoot(2, -1);
        Check.due("without a root", desk.point(2, 15), 0);
    }

    private static void reasonsInOrder() {
        AlarmDesk desk = new AlarmDesk();
        desk.add(0, 3);
        desk.add(0, 3);
        desk.setFlood(10, 1, 0);
        desk.setRoot(1, 0);
        desk.set(1, 6, 2);
        desk.setState(1);
        desk.tick(1);
        desk.shelve(1, 5);
        Check.due("flood", desk.plant(2), 1);
        Check.due("shelved first", desk.point(1, 15), 1);
        desk.unshelve(1);
        Check.due("then the state", desk.point(1, 15), 2);
        desk.setState(2);
        Check.due("then the root", desk.point(1, 15), 3);
        desk.setRoot(1, -1);
        Check.due("then the flood", desk.point(1, 15), 4);
    }

    private static void highestPriorityIsNeverHidden() {
        AlarmDesk desk = new AlarmDesk();
        desk.add(0, 1);
        desk.add(0, 1);
        desk.setFlood(10, 1, 0);
        desk.setRoot(1, 0);
        desk.set(1, 6, 15);
        desk.tick(1);
        Check.due("flood", desk.plant(2), 1);
        Check.due("priority 1 is shown", desk.point(1, 15), 0);
        desk.set(1, 5, 2);
        Check.due("priority 2 is hidden", desk.point(1, 15), 2);
    }

    private static void floodBeginsAndEnds() {
        AlarmDesk desk = new AlarmDesk();
        for (int k = 0; k < 4; k++) {
            desk.add(1, 2);
        }
        desk.setFlood(3, 2, 1);
        desk.setValue(0, 1);
        desk.setValue(1, 1);
        desk.tick(1);
        Check.due("no flood at the rate of high", desk.plant(2), 0);
        desk.setValue(2, 1);
        desk.tick(1);
        Check.due("flood above high", desk.plant(2), 1);
        Check.latestEvent(desk, "flood begins", 2, 6, AlarmDesk.NONE);
        desk.setValue(3, 1);
        desk.tick(2);
        Check.due("rate 2", desk.plant(3), 2);
        Check.due("still a flood above low", desk.plant(2), 1);
        desk.tick(1);
        Check.due("rate 1", desk.plant(3), 1);
        Check.due("no flood at the rate of low", desk.plant(2), 0);
        Check.latestEvent(desk, "flood ends", 5, 7, AlarmDesk.NONE);
        Check.due("events()", desk.events(), 6);
        desk.setFlood(60, 1, 0);
        Check.due("the rate as it would be looked at", desk.plant(3), 4);
        Check.due("looked at by a tick alone", desk.plant(2), 0);
        desk.tick(1);
        Check.due("flood again", desk.plant(2), 1);
    }

    private static void floodEndsBelowLow() {
        AlarmDesk desk = new AlarmDesk();
        for (int k = 0; k < 4; k++) {
            desk.add(0, 2);
        }
        desk.setFlood(3, 3, 2);
        desk.tick(3);
        Check.due("rate 4", desk.plant(3), 4);
        Check.due("still a flood", desk.plant(2), 1);
        desk.tick(1);
        Check.due("rate 0", desk.plant(3), 0);
        Check.due("no flood below low", desk.plant(2), 0);
    }

    private static void floodHides() {
        AlarmDesk desk = new AlarmDesk();
        for (int priority = 1; priority <= 4; priority++) {
            desk.add(1, priority);
        }
        desk.add(0, 4);
        desk.setFlood(10, 3, 0);
        desk.tick(1);
        for (int k = 0; k < 3; k++) {
            desk.setValue(k, 1);
        }
        desk.tick(1);
        desk.setValue(3, 1);
        desk.tick(1);
        int[] due = {0, 0, 4, 4, 0};
        for (int k = 0; k < 5; k++) {
            Check.due("in a flood, point " + k, desk.point(k, 15), due[k]);
        }
        Check.due("count(5)", desk.count(5), 2);
        desk.set(3, 5, 2);
        Check.due("priority 2 in a flood", desk.point(3, 15), 0);
        desk.tick(11);
        Check.due("the flood is over", desk.plant(2), 0);
        Check.due("shown after the flood", desk.point(2, 15), 0);
    }

    private static void rateByWindow() {
        AlarmDesk desk = new AlarmDesk();
        desk.add(1, 2);
        for (int k = 0; k < 35; k++) {
            desk.setValue(0, 1);
            desk.tick(1);
            desk.setValue(0, 0);
            desk.tick(1);
        }
        Check.due("time", desk.plant(0), 70);
        Check.due("rate in 10", desk.plant(3), 5);
        desk.setFlood(60, 50, 0);
        Check.due("rate in 60, more than the events that are kept", desk.plant(3), 30);
        desk.setFlood(1, 50, 0);
        Check.due("rate in 1", desk.plant(3), 0);
        desk.setFlood(2, 50, 0);
        Check.due("rate in 2", desk.plant(3), 1);
        desk.setFlood(60, 50, 0);
        desk.tick(59);
        Check.due("rate in 60 after 59", desk.plant(3), 0);
        desk.undo();
        desk.tick(58);
        Check.due("rate in 60 after 58", desk.plant(3), 1);
    }

    private static void numbersOfThePlant() {
        AlarmDesk desk = new AlarmDesk();
        desk.add(0, 2);
        desk.add(0, 2);
        desk.setState(3);
        desk.setFlood(2, 1, 0);
        desk.tick(2);
        int[] due = {2, 3, 1, 2, 2};
        for (int what = 0; what <= 4; what++) {
            Check.due("plant(" + what + ")", desk.plant(what), due[what]);
        }
        desk.tick(1);
        Check.due("plant(2)", desk.plant(2), 0);
        Check.due("plant(3)", desk.plant(3), 0);
        Check.due("plant(4)", desk.plant(4), 2);
        Check.refused(desk, "plant(5)", AlarmDesk.BAD, () -> desk.plant(5));
        Check.refused(desk, "plant(-1)", AlarmDesk.BAD, () -> desk.plant(-1));
    }
}
