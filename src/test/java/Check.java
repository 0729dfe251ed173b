/** What the tests of the project share: answers are compared, counted, and told if wrong. */
final class Check {

    interface Call {
        long answer();
    }

    private static int right;
    private static int wrong;

    private Check() {
    }

    static void due(String call, double got, double want) {
        if (got == want) {
            right++;
            return;
        }
        wrong++;
        System.out.println(call + " answered " + got + ", due is " + want);
    }

    static void due(String call, long got, long want) {
        if (got == want) {
            right++;
            return;
        }
        wrong++;
        System.out.println(call + " answered " + got + ", due is " + want);
    }

    /** The call answers with an error, and nothing that can be looked at is another afterwards. */
    static void refused(AlarmDesk desk, String call, long want, Call made) {
        long print = desk.fingerprint();
        float mean = desk.meanAck();
        due(call, made.answer(), want);
        due("fingerprint() after " + call, desk.fingerprint(), print);
        due("meanAck() after " + call, desk.meanAck(), mean);
    }

    /** Undoes all; says that the history held so many acts. */
    static void history(AlarmDesk desk, String after, int acts) {
        for (int left = acts - 1; left >= 0; left--) {
            due("undo() after " + after, desk.undo(), left);
        }
        due("last undo() after " + after, desk.undo(), AlarmDesk.NONE);
    }

    /** The latest event, as a call of event() for each of its numbers. */
    static void latestEvent(AlarmDesk desk, String after, int time, int kind, int point) {
        due("event(0, 0) after " + after, desk.event(0, 0), time);
        due("event(0, 1) after " + after, desk.event(0, 1), kind);
        due("event(0, 2) after " + after, desk.event(0, 2), point);
    }

    static void type(AlarmDesk desk, String script) {
        for (int k = 0; k < script.length(); k++) {
            desk.type(script.charAt(k));
        }
    }

    static int run(AlarmDesk desk, String script) {
        desk.clear();
        type(desk, script);
        return desk.run();
    }

    static void end() {
        System.out.println(right + " passed, " + wrong + " failed");
        if (wrong != 0) {
            System.exit(1);
        }
    }
}
