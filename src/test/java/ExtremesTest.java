/** All promises: every call with arguments far out and at the edges of their ranges. */
public final class ExtremesTest {

    private static final int[] NUMBERS = {
        Integer.MIN_VALUE, -1000000, -20009, -20001, -10001, -10000, -1, 0, 1, 2, 5, 6, 7, 15, 16,
        40, 41, 80, 100, 101, 1000, 1001, 10000, 10001, Integer.MAX_VALUE - 1, Integer.MAX_VALUE,
    };

    private static final int MOST_CALLS_OF_A_PAIR = 40;

    public static void main(String[] args) {
        Check.about("Promises 1 to 28");
        for (int points = 0; points <= 16; points += 4) {
            everyCall(points, 0);
            everyCall(points, 10000);
        }
        Check.end();
    }

    private static void everyCall(int points, int time) {
        for (int a : NUMBERS) {
            Desk desk = null;
            ModelDesk model = null;
            for (int b : NUMBERS) {
                if (desk == null || desk.callsLeft() < MOST_CALLS_OF_A_PAIR) {
                    desk = new Desk();
                    model = new ModelDesk();
                    prepare(desk, model, points, time);
                }
                String call = " of " + a + " " + b + " with " + points + " points at " + time;
                acts(desk, model, call, a, b);
                looks(desk, model, call, a, b);
                Check.due("fingerprint" + call, desk.fingerprint(), model.fingerprint());
            }
        }
    }

    private static void prepare(Desk desk, ModelDesk model, int points, int time) {
        for (int k = 0; k < points; k++) {
            desk.add(k % 3 * 5, k % 4 + 1);
            model.add(k % 3 * 5, k % 4 + 1);
        }
        for (int k = 0; k < time; k += 100) {
            desk.tick(100);
            model.tick(100);
        }
    }

    private static void acts(Desk desk, ModelDesk model, String call, int a, int b) {
        Check.due("set" + call, desk.set(a, b, a), model.set(a, b, a));
        for (int setting = 0; setting <= 6; setting++) {
            Check.due("set " + setting + call, desk.set(a, setting, b), model.set(a, setting, b));
        }
        Check.due("setRoot" + call, desk.setRoot(a, b), model.setRoot(a, b));
        Check.due("setValue" + call, desk.setValue(a, b), model.setValue(a, b));
        Check.due("setState" + call, desk.setState(a), model.setState(a));
        Check.due("setFlood" + call, desk.setFlood(a, b, a), model.setFlood(a, b, a));
        Check.due("setFlood" + call, desk.setFlood(b, b, a), model.setFlood(b, b, a));
        Check.due("shelve" + call, desk.shelve(a, b), model.shelve(a, b));
        Check.due("tick" + call, desk.tick(b), model.tick(b));
        Check.due("ack" + call, desk.ack(a), model.ack(a));
        Check.due("unshelve" + call, desk.unshelve(b), model.unshelve(b));
        Check.due("run" + call, desk.run(), model.run());
        Check.due("type" + call, desk.type(b), model.type(b));
        Check.due("ackAll" + call, desk.ackAll(), model.ackAll());
        Check.due("undo" + call, desk.undo(), model.undo());
        Check.due("add" + call, desk.add(a, b), model.add(a, b));
    }

    private static void looks(Desk desk, ModelDesk model, String call, int a, int b) {
        Check.due("point" + call, desk.point(a, b), model.point(a, b));
        Check.due("points" + call, desk.points(), model.points());
        Check.due("plant" + call, desk.plant(b), model.plant(b));
        Check.due("list" + call, desk.list(b), model.list(b));
        Check.due("count" + call, desk.count(b), model.count(b));
        Check.due("events" + call, desk.events(), model.events());
        Check.due("event" + call, desk.event(a, b), model.event(a, b));
        Check.due("meanAck" + call, desk.meanAck(), model.meanAck());
        Check.due("worst" + call, desk.worst(), model.worst());
        Check.due("replay" + call, desk.replay(a, b), model.replay(a, b));
        Check.due("least" + call, desk.leastDeadband(a, b), model.leastDeadband(a, b));
    }
}
