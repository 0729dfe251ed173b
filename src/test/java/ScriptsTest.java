/** Promises 24 to 26: type, clear, run. */
public final class ScriptsTest {

    public static void main(String[] args) {
        typed();
        cleared();
        errorPlaces();
        errorPlacesBehindTheEnd();
        goodScripts();
        carriedOut();
        mostCommands();
        failingCommands();
        failedScriptLeavesHistory();
        oneAct();
        Check.end();
    }

    private static void typed() {
        AlarmDesk desk = new AlarmDesk();
        Check.refused(desk, "type(31)", AlarmDesk.BAD, () -> desk.type(31));
        Check.refused(desk, "type(127)", AlarmDesk.BAD, () -> desk.type(127));
        Check.refused(desk, "type(-1)", AlarmDesk.BAD, () -> desk.type(-1));
        Check.refused(desk, "type(65536 + 48)", AlarmDesk.BAD, () -> desk.type(65536 + 48));
        Check.due("type(32)", desk.type(32), 1);
        Check.due("type(126)", desk.type(126), 2);
        for (int k = 3; k <= 80; k++) {
            Check.due("type(48)", desk.type(48), k);
        }
        Check.due("type(48) to 80", desk.type(48), AlarmDesk.FULL);
        Check.due("type(31) to 80", desk.type(31), AlarmDesk.BAD);
        Check.due("clear()", desk.clear(), 80);
        Check.history(desk, "typing", 0);
    }

    private static void cleared() {
        AlarmDesk desk = new AlarmDesk();
        Check.due("clear() of none", desk.clear(), 0);
        Check.type(desk, "abc");
        Check.due("clear()", desk.clear(), 3);
        Check.due("clear() again", desk.clear(), 0);
        desk.add(0, 2);
        Check.type(desk, "tick 1");
        desk.undo();
        Check.due("undo() leaves the buffer", desk.clear(), 6);
    }

    private static void place(String script, int place) {
        AlarmDesk desk = new AlarmDesk();
        desk.add(0, 2);
        Check.type(desk, script);
        Check.refused(desk, "run() of '" + script + "'", -100 - place, desk::run);
        Check.due("the buffer of '" + script + "' stays", desk.clear(), script.length());
        Check.history(desk, "add", 1);
    }

    private static void errorPlaces() {
        String full = "set 0=1;ack 0;shelve 0:1;tick 1;state 1";
        for (int k = 0; k < full.length(); k++) {
            char next = full.charAt(k);
            boolean command = next == ';' || isDigitLast(full, k);
            if (!command) {
                place(full.substring(0, k), k);
            }
            place(full.substring(0, k) + "!" + full.substring(k), k);
        }
        place(full + "!", full.length());
        place(full + ";", full.length() + 1);
        place(" tick 1", 0);
        place("Tick 1", 0);
        place("tick  1", 5);
        place("tick 1 ", 6);
        place("tick 1;;tick 1", 7);
        place("tick 1; tick 1", 7);
        place("tick -1", 5);
        place("tick 123456", 10);
        place("tick 000001", 10);
        place("state 1=", 7);
        place("ack 1:", 5);
        place("ack", 3);
        place("ack0", 3);
        place("set -1=0", 4);
        place("set 0:1", 5);
        place("set 0=--1", 7);
        place("set 0=123456", 11);
        place("set 0=-123456", 12);
        place("set 123456=0", 9);
        place("shelve 0=1", 8);
        place("shelve 0:-1", 9);
        place("shelve 0:123456", 14);
        place("sack 0", 1);
        place("sttick 0", 2);
        place("shet 0=0", 3);
        place("stack 0", 3);
        place("settick 0", 3);
        place("states 0", 5);
    }

    /** What was in the buffer before it was emptied does not count. */
    private static void errorPlacesBehindTheEnd() {
        String full = "set 0=-1;shelve 0:12345;tick 1";
        for (int k = 0; k < full.length(); k++) {
            AlarmDesk fresh = new AlarmDesk();
            fresh.add(0, 2);
            AlarmDesk desk = new AlarmDesk();
            desk.add(0, 2);
            Check.run(desk, full);
            String part = full.substring(0, k);
            Check.due("run() of '" + part + "' behind another", Check.run(desk, part),
                    Check.run(fresh, part));
        }
    }

    private static boolean isDigitLast(String text, int k) {
        return k > 0 && Character.isDigit(text.charAt(k - 1))
                && (text.charAt(k) == ';' || k == text.length());
    }

    private static void good(String script, int commands) {
        AlarmDesk desk = new AlarmDesk();
        desk.add(0, 2);
        Check.type(desk, script);
        Check.due("run() of '" + script + "'", desk.run(), commands);
        Check.due("the buffer is empty", desk.clear(), 0);
        Check.due("undo() of '" + script + "'", desk.undo(), 1);
    }

    private static void goodScripts() {
        good("tick 1", 1);
        good("tick 00100", 1);
        good("set 00000=-10000", 1);
        good("set 0=-0", 1);
        good("set 0=10000;set 0=-10000", 2);
        good("shelve 0:01000", 1);
        good("state 3;state 0", 2);
        good("tick 1;ack 0", 2);
        good("set 0=0;tick 1;ack 0;set 0=-1;tick 1;set 0=0;tick 1;ack 0;set 0=-1;tick 1", 10);
        good("tick 1;tick 1;tick 1;tick 1;tick 1;tick 1;tick 1;tick 1;tick 1;tick 1;tick 001", 11);
    }

    private static void carriedOut() {
        AlarmDesk desk = new AlarmDesk();
        desk.add(0, 2);
        desk.add(50, 3);
        Check.due("run()", Check.run(desk, "set 1=60;tick 2;ack 1;shelve 1:8;state 2;set 0=-7"), 6);
        Check.due("point(1, 7)", desk.point(1, 7), 60);
        Check.due("point(0, 7)", desk.point(0, 7), -7);
        Check.due("plant(0)", desk.plant(0), 2);
        Check.due("plant(1)", desk.plant(1), 2);
        Check.due("point(1, 10)", desk.point(1, 10), 1);
        Check.due("point(0, 10)", desk.point(0, 10), 0);
        Check.due("point(1, 13)", desk.point(1, 13), 10);
        Check.due("meanAck()", desk.meanAck(), 1);
        Check.due("events()", desk.events(), 4);
        Check.due("run() of acts behind others", Check.run(desk, "set 0=1;ack 0;tick 1"), 3);
        Check.due("still in alarm", desk.point(0, 9), 1);
    }

    private static void mostCommands() {
        AlarmDesk desk = new AlarmDesk();
        for (int k = 0; k < 10; k++) {
            desk.add(0, 2);
        }
        desk.tick(1);
        StringBuilder acks = new StringBuilder();
        for (int k = 0; k < 10; k++) {
            acks.append("ack ").append(k).append(';');
        }
        Check.type(desk, acks + "tick 1;tick 1;tick 1");
        Check.due("80 characters", desk.type(' '), AlarmDesk.FULL);
        Check.due("13 commands", desk.run(), 13);
        Check.due("plant(0)", desk.plant(0), 4);
        Check.due("count(7)", desk.count(7), 0);
        Check.due("13 acks, wrong ones", Check.run(desk, acks + "ack 0;ack 0;ack 0"), -1000);
        Check.due("an error at the end", Check.run(desk, acks + "ack 0;ack 0;ack 0;"), -178);
        Check.due("an error at the end", Check.run(desk, acks + "ack 0;ack 0;ack 0;a "), -179);
        Check.due("an error at the end", Check.run(desk, acks + "ack 0;ack 0;ack 0;ac"), -180);
    }

    private static void failing(AlarmDesk desk, String script, int command) {
        Check.type(desk, script);
        Check.refused(desk, "run() of '" + script + "'", -1000 - command, desk::run);
        Check.due("the buffer of '" + script + "' stays", desk.clear(), script.length());
    }

    private static void failingCommands() {
        AlarmDesk desk = new AlarmDesk();
        desk.add(0, 2);
        desk.add(0, 1);
        failing(desk, "ack 0", 0);
        failing(desk, "tick 1;ack 0;ack 0", 2);
        failing(desk, "set 0=10001", 0);
        failing(desk, "set 0=-10001", 0);
        failing(desk, "set 0=5;set 2=0", 1);
        failing(desk, "set 16=0", 0);
        failing(desk, "set 99999=0", 0);
        failing(desk, "tick 0", 0);
        failing(desk, "state 3;tick 5;tick 101", 2);
        failing(desk, "state 4", 0);
        failing(desk, "shelve 0:0", 0);
        failing(desk, "shelve 0:5;shelve 0:1001", 1);
        failing(desk, "shelve 0:5;tick 9;shelve 1:5", 2);
        failing(desk, "shelve 2:5", 0);
        failing(desk, "ack 2", 0);
        failing(desk, "tick 1;ack 1;ack 0;state 1;set 1=-5;tick 100;ack 1", 6);
        failing(desk, "ack 0;ack 1", 0);
        Check.history(desk, "two adds", 2);
    }

    private static void failedScriptLeavesHistory() {
        AlarmDesk desk = new AlarmDesk();
        for (int k = 0; k < 6; k++) {
            desk.add(0, 2);
        }
        failing(desk, "tick 1;tick 0", 1);
        Check.due("plant(0)", desk.plant(0), 0);
        Check.history(desk, "four of six adds", 4);
        Check.due("points()", desk.points(), 2);
    }

    private static void oneAct() {
        AlarmDesk desk = new AlarmDesk();
        desk.add(0, 2);
        long print = desk.fingerprint();
        Check.due("run()", Check.run(desk, "tick 1;ack 0;shelve 0:5;state 1;set 0=9"), 5);
        Check.due("undo()", desk.undo(), 1);
        Check.due("fingerprint() after undo", desk.fingerprint(), print);
        Check.due("meanAck() after undo", desk.meanAck(), 0);
        Check.due("run() of an empty buffer", desk.run(), -100);
        Check.history(desk, "add", 1);
    }
}
