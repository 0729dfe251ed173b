/** Promise 26: run. */
public final class Promise26RunTest {

    public static void main(String[] args) {
        Check.promise(26, "run");
        leastAndMostOfEachCommand();
        outsideTheRangesOfEachCommand();
        negativeValues();
        numberOfCommands();
        mostCommands();
        carriesOutInOrder();
        bufferIsEmptyThen();
        failingCommands();
        firstFailingCommand();
        lastTime();
        errorPlaceComesFirst();
        isOneAct();
        refusedRuns();
        Check.end();
    }

    /** Two points in alarm since 1; the second one has the highest priority. */
    private static Desk twoInAlarm() {
        Desk desk = new Desk();
        desk.add(0, 2);
        desk.add(0, 1);
        desk.tick(1);
        return desk;
    }

    private static void answers(String script, int due) {
        Desk desk = twoInAlarm();
        Check.due("run() of '" + script + "'", Desks.run(desk, script), due);
        Check.due("clear() after '" + script + "'", desk.clear(), due > 0 ? 0 : script.length());
    }

    private static void leastAndMostOfEachCommand() {
        String[] good = {"set 0=0", "set 1=10000", "set 1=-10000", "set 0=9", "ack 0", "ack 1",
            "shelve 0:1", "shelve 0:1000", "tick 1", "tick 100", "state 0", "state 3",
            "set 00000=00000", "set 0=-0", "set 0=-00000", "set 00001=-01000", "ack 00001",
            "shelve 00000:01000", "tick 00100", "state 00003"};
        for (String script : good) {
            answers(script, 1);
        }
    }

    private static void outsideTheRangesOfEachCommand() {
        String[] failing = {"set 2=0", "set 99999=0", "set 0=10001", "set 0=-10001",
            "set 0=99999", "set 0=-99999", "ack 2", "ack 99999", "shelve 2:1", "shelve 99999:1",
            "shelve 0:0", "shelve 0:1001", "shelve 0:99999", "shelve 1:1", "tick 0", "tick 101",
            "tick 99999", "state 4", "state 99999"};
        for (String script : failing) {
            answers(script, -1000);
            answers("tick 1;" + script + ";tick 1", -1001);
        }
        Desk full = Desks.full();
        Check.due("run() with the point 15", Desks.run(full, "set 15=1;shelve 15:1"), 2);
        Check.due("run() with the point 16", Desks.run(full, "set 15=1;set 16=1"), -1001);
        Check.due("run() with a point of none", Desks.run(new Desk(), "set 0=1"), -1000);
    }

    private static void negativeValues() {
        Desk desk = twoInAlarm();
        desk.setValue(0, -10000);
        Check.due("run() behind the value -10000", Desks.run(desk, "set 0=-7;set 0=-8;set 1=3"), 3);
        Check.due("point(0, 7)", desk.point(0, 7), -8);
        Check.due("point(1, 7)", desk.point(1, 7), 3);
    }

    private static void numberOfCommands() {
        answers("state 1;state 2", 2);
        answers("set 0=0;ack 0;shelve 0:1;tick 1;state 1", 5);
        answers("set 0=-1;tick 1;set 0=0;tick 1;ack 0;set 0=-1;tick 1;set 0=0;tick 1", 9);
        answers("tick 1;tick 1;tick 1;tick 1;tick 1;tick 1;tick 1;tick 1;tick 1;tick 1;tick 001",
                11);
    }

    private static Desk tenInAlarm() {
        Desk desk = new Desk();
        for (int k = 0; k < 10; k++) {
            desk.add(0, 2);
        }
        desk.tick(1);
        return desk;
    }

    private static void mostCommands() {
        StringBuilder acks = new StringBuilder();
        for (int k = 0; k < 10; k++) {
            acks.append("ack ").append(k).append(';');
        }
        Desk desk = tenInAlarm();
        Check.due("run() of 13 commands", Desks.run(desk, acks + "tick 1;tick 1;tick 1"), 13);
        Check.due("plant(0)", desk.plant(0), 4);
        Check.due("count(7)", desk.count(7), 0);
        Desk late = tenInAlarm();
        Check.due("an error in the 13th", Desks.run(late, acks + "tick 1;tick 1;ack 0"), -1012);
        Check.due("nothing is carried out", late.count(7), 10);
        Desk again = tenInAlarm();
        String shortest = acks + "ack 0;ack 0;ack 0";
        Check.due("run() of 13 shortest commands", Desks.run(again, shortest), -1010);
        Check.due("and an end too early", Desks.run(again, shortest + ";"), -178);
        Check.due("and an end too early", Desks.run(again, shortest + ";a"), -179);
        Check.due("and an end too early", Desks.run(again, shortest + ";ac"), -180);
        Check.due("and another character", Desks.run(again, shortest + ";x"), -178);
        Check.due("and another character", Desks.run(again, shortest + ";ax"), -179);
    }

    private static void carriesOutInOrder() {
        Desk desk = new Desk();
        desk.add(0, 2);
        desk.add(50, 3);
        Check.due("run()", Desks.run(desk, "set 1=60;tick 2;ack 1;shelve 1:8;state 2;set 0=-7"), 6);
        Check.due("point(1, 7)", desk.point(1, 7), 60);
        Check.due("point(0, 7)", desk.point(0, 7), -7);
        Check.due("plant(0)", desk.plant(0), 2);
        Check.due("plant(1)", desk.plant(1), 2);
        Check.due("point(1, 10)", desk.point(1, 10), 1);
        Check.due("point(0, 10)", desk.point(0, 10), 0);
        Check.due("point(1, 13)", desk.point(1, 13), 10);
        Check.due("meanAck()", desk.meanAck(), 1);
        Check.due("events()", desk.events(), 4);
        Check.latestEvent(desk, "run()", 2, 4, 1);
        Check.due("run()", Desks.run(desk, "set 0=1;ack 0;tick 1"), 3);
        Check.due("still in alarm", desk.point(0, 9), 1);
        Check.due("ack behind tick", Desks.run(twoInAlarm(), "ack 0;set 0=-1;tick 1;set 0=1;tick 1"
                + ";ack 0"), 6);
        Check.due("values of three ticks", desk.replay(1, 0), 1);
    }

    private static void bufferIsEmptyThen() {
        Desk desk = twoInAlarm();
        Check.due("run()", Desks.run(desk, "tick 1"), 1);
        Check.due("run() of the empty buffer", desk.run(), -100);
        Check.due("type() then", desk.type('t'), 1);
        Check.due("run() then", desk.run(), -101);
        Check.due("plant(0)", desk.plant(0), 2);
    }

    private static void failingCommands() {
        answers("ack 0;ack 0", -1001);
        answers("ack 0;tick 1;ack 1;ack 0", -1003);
        answers("shelve 1:5", -1000);
        answers("shelve 0:5;shelve 1:5", -1001);
        answers("set 0=5;set 2=0", -1001);
        answers("state 3;tick 5;tick 101", -1002);
        answers("set 0=-1;tick 1;ack 0;tick 1;ack 0", -1004);
    }

    private static void firstFailingCommand() {
        answers("tick 0;tick 0;tick 0", -1000);
        answers("tick 1;state 9;ack 9;tick 0", -1001);
        answers("ack 0;ack 1;ack 1;ack 0", -1002);
    }

    private static Desk at(int time) {
        Desk desk = new Desk();
        desk.add(0, 2);
        Desks.tickTo(desk, time);
        return desk;
    }

    private static void lastTime() {
        Check.due("tick 100 at 9900", Desks.run(at(9900), "tick 100"), 1);
        Desk desk = at(9999);
        Check.due("one tick at 9999", Desks.run(desk, "tick 2"), -1000);
        Check.due("a second tick at 9999", Desks.run(desk, "tick 1;ack 0;tick 1"), -1002);
        Check.due("plant(0)", desk.plant(0), 9999);
        Check.due("point(0, 10)", desk.point(0, 10), 0);
        Check.due("run()", Desks.run(desk, "tick 1;ack 0;shelve 0:1000"), 3);
        Check.due("plant(0)", desk.plant(0), 10000);
        Check.due("point(0, 13)", desk.point(0, 13), 11000);
    }

    private static void errorPlaceComesFirst() {
        answers("tick 0;tick", -111);
        answers("ack 9;;", -106);
        answers("tick 0;", -107);
    }

    private static void isOneAct() {
        Desk desk = Desks.busy();
        Desk twin = Desks.busy();
        int commands = Desks.run(desk, "tick 1;ack 0;shelve 1:5;state 1;set 0=9;ack 3");
        Check.due("run()", commands, 6);
        Check.due("undo()", desk.undo(), 3);
        twin.clear();
        Check.sameFromNowOn("after run() and undo()", desk, twin);
        Desk first = new Desk();
        Check.due("run()", Desks.run(first, "state 0"), 1);
        Check.due("undo() of a script that leaves all as it was", first.undo(), 0);
        Check.due("undo()", first.undo(), AlarmDesk.NONE);
    }

    private static Desk busyWith(String script) {
        Desk desk = Desks.busy();
        desk.clear();
        Desks.type(desk, script);
        return desk;
    }

    private static void refusedRuns() {
        String[] scripts = {"", "tick", "tick 1;", "tick 123456", "tick 0", "set 0=7;tick 2;tick 0",
            "shelve 1:9;ack 0;state 1;set 1=-5;tick 100;ack 4", "ack 0;ack 3;ack 1;shelve 0:1"};
        int[] due = {-100, -104, -107, -110, -1000, -1002, -1005, -1003};
        for (int k = 0; k < scripts.length; k++) {
            String script = scripts[k];
            Check.refused("run() of '" + script + "'", due[k], () -> busyWith(script),
                    d -> d.run());
            Desk desk = busyWith(script);
            desk.run();
            Check.due("run() of '" + script + "' again", desk.run(), due[k]);
            Check.due("clear() of '" + script + "'", desk.clear(), script.length());
        }
    }
}
