/** Desks that several tests begin with, and what they do with a desk. */
final class Desks {

    private Desks() {
    }

    static Desk fresh() {
        return new Desk();
    }

    /** So many points that are not in alarm, with the limit 100 and the priority 2. */
    static Desk withPoints(int points) {
        Desk desk = new Desk();
        for (int k = 0; k < points; k++) {
            desk.add(100, 2);
        }
        return desk;
    }

    /** As many points as there may be. */
    static Desk full() {
        return withPoints(16);
    }

    /** So many points with the limit 0, in alarm since the time 1, and no flood. */
    static Desk inAlarm(int points, int priority) {
        Desk desk = new Desk();
        for (int k = 0; k < points; k++) {
            desk.add(0, priority);
        }
        desk.setFlood(1, 50, 50);
        desk.tick(1);
        return desk;
    }

    /**
     * Something of all: 0 has the highest priority, 1 is shelved, 2 counts, 3 is behind 0, 4 is
     * acknowledged; there are a flood, values, a script, and four states of the history.
     */
    static Desk busy() {
        Desk desk = new Desk();
        int[] limits = {0, 0, 5, 0, 0};
        int[] priorities = {1, 2, 3, 4, 2};
        for (int k = 0; k < limits.length; k++) {
            desk.add(limits[k], priorities[k]);
        }
        desk.set(2, 3, 9);
        desk.set(3, 0, 1);
        desk.setRoot(3, 0);
        desk.setFlood(20, 2, 1);
        desk.setValue(2, 5);
        desk.tick(2);
        desk.setValue(4, -1);
        desk.tick(1);
        desk.ack(4);
        desk.setState(2);
        desk.shelve(1, 30);
        type(desk, "tick 1");
        return desk;
    }

    /** 0 and 1 are in alarm since 1; 1 counts towards the end of its alarm. */
    static Desk inAlarmAndCounting() {
        Desk desk = inAlarm(2, 2);
        desk.set(1, 4, 9);
        desk.setValue(1, -1);
        desk.tick(3);
        return desk;
    }

    static void tickTo(Desk desk, int time) {
        int at = desk.plant(0);
        while (at < time) {
            at = desk.tick(Math.min(100, time - at));
        }
    }

    /** One point in alarm, another one that counts, at the last time that there is. */
    static Desk late() {
        Desk desk = inAlarm(2, 2);
        desk.set(1, 4, 20);
        tickTo(desk, 9997);
        desk.setValue(1, -1);
        tickTo(desk, 10000);
        return desk;
    }

    /** Puts each of the values down by a tick of its own. */
    static void tickValues(Desk desk, int point, int... values) {
        for (int value : values) {
            desk.setValue(point, value);
            desk.tick(1);
        }
    }

    static void type(Desk desk, String script) {
        for (int k = 0; k < script.length(); k++) {
            desk.type(script.charAt(k));
        }
    }

    static int run(Desk desk, String script) {
        desk.clear();
        type(desk, script);
        return desk.run();
    }
}
