/** Promise 26 (run): the error place, for every character behind each beginning of a script. */
public final class Promise26ErrorPlaceTest {

    private static final String DIGITS = "0123456789";
    private static final String FIRST = "ast";

    /** A beginning of a command, then what can stand behind it; 'e' marks that it can end there. */
    private static final String[][] BEGINNINGS = {
        {"", FIRST, ""},
        {"s", "eht", ""}, {"se", "t", ""}, {"set", " ", ""}, {"set ", DIGITS, ""},
        {"set 1", DIGITS + "=", ""}, {"set 12", DIGITS + "=", ""}, {"set 1234", DIGITS + "=", ""},
        {"set 12345", "=", ""}, {"set 1=", DIGITS + "-", ""}, {"set 12345=", DIGITS + "-", ""},
        {"set 1=-", DIGITS, ""}, {"set 0=2", DIGITS + ";", "e"}, {"set 0=-2", DIGITS + ";", "e"},
        {"set 0=2345", DIGITS + ";", "e"}, {"set 0=-2345", DIGITS + ";", "e"},
        {"set 0=12345", ";", "e"}, {"set 0=-12345", ";", "e"}, {"set 0=0;", FIRST, ""},
        {"a", "c", ""}, {"ac", "k", ""}, {"ack", " ", ""}, {"ack ", DIGITS, ""},
        {"ack 1", DIGITS + ";", "e"}, {"ack 1234", DIGITS + ";", "e"}, {"ack 12345", ";", "e"},
        {"ack 00000", ";", "e"}, {"ack 0;", FIRST, ""},
        {"sh", "e", ""}, {"she", "l", ""}, {"shel", "v", ""}, {"shelv", "e", ""},
        {"shelve", " ", ""}, {"shelve ", DIGITS, ""}, {"shelve 1", DIGITS + ":", ""},
        {"shelve 1234", DIGITS + ":", ""}, {"shelve 12345", ":", ""}, {"shelve 1:", DIGITS, ""},
        {"shelve 0:1", DIGITS + ";", "e"}, {"shelve 0:1234", DIGITS + ";", "e"},
        {"shelve 0:12345", ";", "e"}, {"shelve 0:1;", FIRST, ""},
        {"t", "i", ""}, {"ti", "c", ""}, {"tic", "k", ""}, {"tick", " ", ""},
        {"tick ", DIGITS, ""}, {"tick 1", DIGITS + ";", "e"}, {"tick 1234", DIGITS + ";", "e"},
        {"tick 12345", ";", "e"}, {"tick 0;", FIRST, ""},
        {"st", "a", ""}, {"sta", "t", ""}, {"stat", "e", ""}, {"state", " ", ""},
        {"state ", DIGITS, ""}, {"state 1", DIGITS + ";", "e"}, {"state 1234", DIGITS + ";", "e"},
        {"state 12345", ";", "e"}, {"state 1;", FIRST, ""},
    };

    public static void main(String[] args) {
        Check.promise(26, "run: the error place");
        for (String[] beginning : BEGINNINGS) {
            behind("", beginning);
            behind("tick 1;", beginning);
            behind("set 0=-10;shelve 0:5;", beginning);
        }
        emptyBuffer();
        placesByHand();
        placesUpToTheEnd();
        Check.end();
    }

    private static Desk typed(String script) {
        Desk desk = Desks.withPoints(1);
        Desks.type(desk, script);
        return desk;
    }

    private static void behind(String before, String[] beginning) {
        String script = before + beginning[0];
        int place = -100 - script.length();
        int answer = typed(script).run();
        if (beginning[2].isEmpty()) {
            Check.due("run() of '" + script + "'", answer, place);
        } else {
            Check.due("'" + script + "' has no error place", isErrorPlace(answer), 0);
        }
        for (char c = 32; c <= 126; c++) {
            int further = typed(script + c).run();
            if (beginning[1].indexOf(c) < 0) {
                Check.due("run() of '" + script + c + "'", further, place);
            } else {
                Check.due("'" + script + c + "' has an error at " + script.length(),
                        further == place ? 1 : 0, 0);
            }
        }
    }

    private static int isErrorPlace(int answer) {
        return answer <= -100 && answer >= -180 ? 1 : 0;
    }

    private static void emptyBuffer() {
        Check.due("run() of a new desk", new Desk().run(), -100);
        Check.due("run() of an empty buffer", typed("").run(), -100);
    }

    private static void placesByHand() {
        String[] scripts = {" tick 1", "Tick 1", "tick  1", "tick 1 ", "tick 1;;tick 1",
            "tick 1; tick 1", "tick -1", "tick 123456", "tick 000001", "state 1=", "ack 1:",
            "ack0", "set -1=0", "set 0:1", "set 0=--1", "set 0=123456", "set 0=-123456",
            "set 123456=0", "shelve 0=1", "shelve 0:-1", "shelve 0:123456", "sack 0", "sttick 0",
            "shet 0=0", "stack 0", "settick 0", "states 0", "set 0=+1", "set 0=1-", "set 0==1",
            "tick 1,tick 1", "unshelve 0", ";", ";tick 1"};
        int[] places = {0, 0, 5, 6, 7, 7, 5, 10, 10, 7, 5, 3, 4, 5, 7, 11, 12, 9, 8, 9, 14, 1, 2,
            3, 3, 3, 5, 6, 7, 6, 6, 0, 0, 0};
        for (int k = 0; k < scripts.length; k++) {
            Check.due("run() of '" + scripts[k] + "'", typed(scripts[k]).run(), -100 - places[k]);
        }
    }

    /** 80 characters, of which the last one is wrong, or something more is missing. */
    private static void placesUpToTheEnd() {
        String ten = "tick 1;tick 1;tick 1;tick 1;tick 1;tick 1;tick 1;tick 1;tick 1;tick 1;";
        Check.due("an error at 79", typed(ten + "tick 0001x").run(), -179);
        Check.due("an error at 79", typed(ten + "tick 1;tiK").run(), -179);
        Check.due("an end at 80", typed(ten + "tick 1;tic").run(), -180);
        Check.due("an end at 80", typed(ten + "set 1234=-").run(), -180);
        Check.due("an end at 80", typed(ten + "tick 0001;").run(), -180);
        Check.due("no error in 80", typed(ten + "tick 00001").run(), 11);
    }
}
