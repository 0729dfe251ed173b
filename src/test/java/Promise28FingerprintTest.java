/** Promise 28: fingerprint. */
public final class Promise28FingerprintTest {

    public static void main(String[] args) {
        Check.promise(28, "fingerprint");
        ofANewDesk();
        ofOnePoint();
        byItsNumbers();
        ofAFullDesk();
        acrossTheKeptEvents();
        leavesAllAsItWas();
        withoutBufferAndHistory();
        Check.end();
    }

    private static void ofANewDesk() {
        // 157, then the seven zeros of plant() 0 to 4, points() and events()
        long due = 157L * 31 * 31 * 31 * 31 * 31 * 31 * 31;
        Check.due("fingerprint() of a new desk", new Desk().fingerprint(), due);
    }

    private static void ofOnePoint() {
        Desk desk = new Desk();
        desk.add(-3, 4);
        desk.setState(2);
        int[] numbers = {0, 2, 0, 0, 0, 1, 0, -3, 0, 0, 0, 4, 0, 0, -1, 0, 1, 0, 0, 0, 0,
            AlarmDesk.NONE, 0};
        Check.due("fingerprint() of a point", desk.fingerprint(), of(numbers));
        desk.tick(1);
        int[] later = {1, 2, 0, 1, 1, 1, 0, -3, 0, 0, 0, 4, 0, 0, -1, 1, 0, 0, 1, 0, 1, 0, 1, 1, 1,
            0};
        Check.due("fingerprint() of a point in alarm", desk.fingerprint(), of(later));
    }

    private static long of(int[] numbers) {
        long print = 157;
        for (int number : numbers) {
            print = 31 * print + number;
        }
        return print;
    }

    private static long byNumbers(Desk desk) {
        long print = 157;
        for (int what = 0; what <= 4; what++) {
            print = print * 31 + desk.plant(what);
        }
        int points = desk.points();
        print = print * 31 + points;
        for (int k = 0; k < points; k++) {
            for (int what = 0; what <= 15; what++) {
                print = print * 31 + desk.point(k, what);
            }
        }
        int events = desk.events();
        print = print * 31 + events;
        for (int k = 0; k < 30 && k < events; k++) {
            for (int what = 0; what <= 2; what++) {
                print = print * 31 + desk.event(k, what);
            }
        }
        return print;
    }

    private static void byItsNumbers() {
        Desk desk = Desks.busy();
        Check.due("fingerprint() of a busy desk", desk.fingerprint(), byNumbers(desk));
        desk.run();
        desk.setFlood(1, 1, 0);
        desk.set(2, 5, 1);
        Check.due("fingerprint() then", desk.fingerprint(), byNumbers(desk));
    }

    private static void ofAFullDesk() {
        Desk desk = Desks.inAlarm(16, 3);
        for (int k = 0; k < 16; k++) {
            desk.shelve(k, k + 1);
        }
        Check.due("fingerprint() of 16 points", desk.fingerprint(), byNumbers(desk));
        desk.tick(10);
        Check.due("events()", desk.events(), 42);
    }

    private static void acrossTheKeptEvents() {
        for (int events : new int[] {0, 1, 29, 30, 31, 32, 60, 61}) {
            Desk desk = Desks.withPoints(2);
            for (int k = 0; k < events; k++) {
                desk.shelve(k % 2, k + 1);
            }
            Check.due("fingerprint() with " + events + " events", desk.fingerprint(),
                    byNumbers(desk));
        }
    }

    private static void leavesAllAsItWas() {
        Desk desk = Desks.busy();
        long print = desk.fingerprint();
        Check.due("fingerprint() again", desk.fingerprint(), print);
        Check.sameFromNowOn("after fingerprint()", desk, Desks.busy());
    }

    private static void withoutBufferAndHistory() {
        Desk desk = Desks.busy();
        long print = desk.fingerprint();
        desk.clear();
        desk.type('x');
        Check.due("fingerprint() with another buffer", desk.fingerprint(), print);
        desk.setState(2);
        Check.due("fingerprint() with another history", desk.fingerprint(), print);
        desk.setState(3);
        desk.undo();
        Check.due("fingerprint() after undo()", desk.fingerprint(), print);
    }
}
