/** Promises 1 to 7: a new object, add, set, setRoot, setValue, point, points. */
public final class PointsTest {

    private static final int[] LEAST = {0, -10000, 0, 0, 0, 1, 0};
    private static final int[] MOST = {1, 10000, 1000, 20, 20, 4, 15};

    public static void main(String[] args) {
        newObject();
        added();
        addRefused();
        settings();
        setRefused();
        setLeavesCountAndAlarm();
        highestPriorityLeavesShelf();
        roots();
        rootsRefused();
        longChainOfRoots();
        values();
        numbersOfAPoint();
        Check.end();
    }

    private static void newObject() {
        AlarmDesk desk = new AlarmDesk();
        Check.due("points()", desk.points(), 0);
        Check.due("events()", desk.events(), 0);
        for (int what = 0; what <= 4; what++) {
            Check.due("plant of a new desk", desk.plant(what), 0);
        }
        Check.due("list(0)", desk.list(0), AlarmDesk.NONE);
        Check.due("point(0, 0)", desk.point(0, 0), AlarmDesk.BAD);
        Check.due("clear()", desk.clear(), 0);
        Check.due("undo()", desk.undo(), AlarmDesk.NONE);
        desk.add(0, 1);
        Check.due("another desk has no points", new AlarmDesk().points(), 0);
    }

    private static void added() {
        AlarmDesk desk = new AlarmDesk();
        Check.due("add(-10000, 1)", desk.add(-10000, 1), 0);
        Check.due("add(10000, 4)", desk.add(10000, 4), 1);
        Check.due("points()", desk.points(), 2);
        int[] due = {0, 10000, 0, 0, 0, 4, 0, 0, -1, 0, 1, 0, 0, 0, 0, AlarmDesk.NONE};
        for (int what = 0; what <= 15; what++) {
            Check.due("point(1, " + what + ") of a new point", desk.point(1, what), due[what]);
        }
        Check.due("point(0, 1)", desk.point(0, 1), -10000);
        Check.due("point(0, 5)", desk.point(0, 5), 1);
        for (int k = 2; k < 16; k++) {
            Check.due("add", desk.add(k, 2), k);
        }
        Check.due("points()", desk.points(), 16);
        Check.refused(desk, "add to 16", AlarmDesk.FULL, () -> desk.add(0, 1));
        Check.refused(desk, "bad add to 16", AlarmDesk.BAD, () -> desk.add(0, 0));
        Check.history(desk, "16 adds", 4);
        Check.due("points() after four undos", desk.points(), 12);
        Check.due("add after undo", desk.add(7, 2), 12);
    }

    private static void addRefused() {
        AlarmDesk desk = new AlarmDesk();
        Check.refused(desk, "add(10001, 1)", AlarmDesk.BAD, () -> desk.add(10001, 1));
        Check.refused(desk, "add(-10001, 1)", AlarmDesk.BAD, () -> desk.add(-10001, 1));
        Check.refused(desk, "add(0, 0)", AlarmDesk.BAD, () -> desk.add(0, 0));
        Check.refused(desk, "add(0, 5)", AlarmDesk.BAD, () -> desk.add(0, 5));
        Check.refused(desk, "add(MIN, 1)", AlarmDesk.BAD, () -> desk.add(Integer.MIN_VALUE, 1));
        Check.history(desk, "refused adds", 0);
    }

    private static void settings() {
        AlarmDesk desk = new AlarmDesk();
        desk.add(100, 3);
        int[] previous = {0, 100, 0, 0, 0, 3, 0};
        for (int setting = 0; setting <= 6; setting++) {
            String call = "set(0, " + setting + ", ..)";
            Check.due(call, desk.set(0, setting, MOST[setting]), previous[setting]);
            Check.due(call, desk.set(0, setting, LEAST[setting]), MOST[setting]);
            Check.due("point after " + call, desk.point(0, setting), LEAST[setting]);
        }
        Check.history(desk, "sets", 4);
        Check.due("point(0, 5) after undos", desk.point(0, 5), 3);
        Check.due("point(0, 4) after undos", desk.point(0, 4), 0);
    }

    private static void setRefused() {
        AlarmDesk desk = new AlarmDesk();
        desk.add(100, 3);
        for (int setting = 0; setting <= 6; setting++) {
            int s = setting;
            Check.refused(desk, "set below, " + s, AlarmDesk.BAD, () -> desk.set(0, s, LEAST[s] - 1));
            Check.refused(desk, "set above, " + s, AlarmDesk.BAD, () -> desk.set(0, s, MOST[s] + 1));
        }
        Check.refused(desk, "set(0, -1, 0)", AlarmDesk.BAD, () -> desk.set(0, -1, 0));
        Check.refused(desk, "set(0, 7, 0)", AlarmDesk.BAD, () -> desk.set(0, 7, 0));
        Check.refused(desk, "set(1, 0, 0)", AlarmDesk.BAD, () -> desk.set(1, 0, 0));
        Check.refused(desk, "set(-1, 0, 0)", AlarmDesk.BAD, () -> desk.set(-1, 0, 0));
        Check.history(desk, "one add and refused sets", 1);
    }

    private static void setLeavesCountAndAlarm() {
        AlarmDesk desk = new AlarmDesk();
        desk.add(0, 2);
        desk.add(0, 2);
        desk.set(1, 3, 5);
        desk.tick(4);
        desk.set(1, 3, 2);
        Check.due("count as it was", desk.point(1, 11), 4);
        desk.set(0, 1, 50);
        Check.due("alarm as it was", desk.point(0, 9), 1);
        Check.due("events()", desk.events(), 1);
        desk.tick(1);
        Check.due("alarm by the new delay", desk.point(1, 9), 1);
        Check.due("count in alarm", desk.point(1, 11), 0);
        Check.due("alarm over by the new limit", desk.point(0, 9), 0);
    }

    private static void highestPriorityLeavesShelf() {
        AlarmDesk desk = new AlarmDesk();
        desk.add(100, 3);
        desk.tick(2);
        desk.shelve(0, 9);
        desk.set(0, 5, 2);
        Check.due("shelved with priority 2", desk.point(0, 13), 11);
        Check.due("events()", desk.events(), 1);
        desk.set(0, 5, 1);
        Check.due("not shelved with priority 1", desk.point(0, 13), 0);
        Check.due("events()", desk.events(), 2);
        Check.latestEvent(desk, "priority 1", 2, 5, 0);
        desk.set(0, 5, 1);
        Check.due("no event if it was not shelved", desk.events(), 2);
        desk.undo();
        desk.undo();
        Check.due("shelved again by undo", desk.point(0, 13), 11);
    }

    private static void roots() {
        AlarmDesk desk = new AlarmDesk();
        for (int k = 0; k < 4; k++) {
            desk.add(100, 3);
        }
        Check.due("setRoot(1, 0)", desk.setRoot(1, 0), -1);
        Check.due("setRoot(2, 0)", desk.setRoot(2, 0), -1);
        Check.due("setRoot(2, 1)", desk.setRoot(2, 1), 0);
        Check.due("setRoot(2, 1) again", desk.setRoot(2, 1), 1);
        Check.due("point(2, 8)", desk.point(2, 8), 1);
        Check.due("setRoot(2, -1)", desk.setRoot(2, -1), 1);
        Check.due("point(2, 8)", desk.point(2, 8), -1);
        Check.due("setRoot(0, 2)", desk.setRoot(0, 2), -1);
        Check.history(desk, "roots", 4);
        Check.due("point(2, 8) after undos", desk.point(2, 8), 0);
    }

    private static void rootsRefused() {
        AlarmDesk desk = new AlarmDesk();
        for (int k = 0; k < 3; k++) {
            desk.add(100, 3);
        }
        desk.setRoot(1, 0);
        desk.setRoot(2, 1);
        Check.refused(desk, "setRoot(1, 1)", AlarmDesk.STATE, () -> desk.setRoot(1, 1));
        Check.refused(desk, "setRoot(0, 1)", AlarmDesk.STATE, () -> desk.setRoot(0, 1));
        Check.refused(desk, "setRoot(0, 2)", AlarmDesk.STATE, () -> desk.setRoot(0, 2));
        Check.refused(desk, "setRoot(0, 3)", AlarmDesk.BAD, () -> desk.setRoot(0, 3));
        Check.refused(desk, "setRoot(0, -2)", AlarmDesk.BAD, () -> desk.setRoot(0, -2));
        Check.refused(desk, "setRoot(3, 0)", AlarmDesk.BAD, () -> desk.setRoot(3, 0));
        Check.refused(desk, "setRoot(3, 3)", AlarmDesk.BAD, () -> desk.setRoot(3, 3));
        Check.refused(desk, "setRoot(-1, -1)", AlarmDesk.BAD, () -> desk.setRoot(-1, -1));
        Check.due("setRoot(2, 0)", desk.setRoot(2, 0), 1);
        Check.history(desk, "refused roots", 4);
    }

    private static void longChainOfRoots() {
        AlarmDesk desk = new AlarmDesk();
        for (int k = 0; k < 16; k++) {
            desk.add(k == 0 ? 0 : 100, 3);
        }
        for (int k = 1; k < 16; k++) {
            Check.due("setRoot in a chain", desk.setRoot(k, k - 1), -1);
        }
        Check.due("setRoot(0, 15)", desk.setRoot(0, 15), AlarmDesk.STATE);
        desk.setValue(15, 100);
        desk.tick(1);
        Check.due("hidden behind the root of 15 roots", desk.point(15, 15), 3);
    }

    private static void values() {
        AlarmDesk desk = new AlarmDesk();
        desk.add(100, 3);
        Check.due("setValue(0, 10000)", desk.setValue(0, 10000), 0);
        Check.due("setValue(0, -10000)", desk.setValue(0, -10000), 10000);
        Check.due("point(0, 7)", desk.point(0, 7), -10000);
        Check.refused(desk, "setValue(0, 10001)", AlarmDesk.BAD, () -> desk.setValue(0, 10001));
        Check.refused(desk, "setValue(0, -10001)", AlarmDesk.BAD, () -> desk.setValue(0, -10001));
        Check.refused(desk, "setValue(1, 0)", AlarmDesk.BAD, () -> desk.setValue(1, 0));
        Check.refused(desk, "setValue(-1, 0)", AlarmDesk.BAD, () -> desk.setValue(-1, 0));
        Check.history(desk, "values", 3);
    }

    private static void numbersOfAPoint() {
        AlarmDesk desk = new AlarmDesk();
        desk.add(100, 3);
        desk.add(5, 2);
        desk.setRoot(1, 0);
        desk.set(1, 4, 3);
        desk.setValue(1, 5);
        desk.tick(2);
        desk.shelve(1, 7);
        desk.setValue(1, 4);
        desk.tick(2);
        int[] due = {0, 5, 0, 0, 3, 2, 0, 4, 0, 1, 0, 2, 1, 9, 1, 1};
        for (int what = 0; what <= 15; what++) {
            Check.due("point(1, " + what + ")", desk.point(1, what), due[what]);
        }
        Check.refused(desk, "point(1, 16)", AlarmDesk.BAD, () -> desk.point(1, 16));
        Check.refused(desk, "point(1, -1)", AlarmDesk.BAD, () -> desk.point(1, -1));
        Check.refused(desk, "point(2, 0)", AlarmDesk.BAD, () -> desk.point(2, 0));
        Check.refused(desk, "point(-1, 0)", AlarmDesk.BAD, () -> desk.point(-1, 0));
        desk.tick(3);
        desk.setValue(1, 5);
        desk.tick(1);
        Check.due("all activations", desk.point(1, 14), 2);
        Check.due("latest activation", desk.point(1, 12), 8);
        Check.due("still not acknowledged", desk.point(1, 10), 0);
        desk.ack(1);
        Check.due("acknowledged", desk.point(1, 10), 1);
        Check.due("stands in alarm", desk.point(1, 15), 1);
    }
}
