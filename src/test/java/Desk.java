/**
 * An AlarmDesk as the tests use it: the document says nothing about an object after its 512th
 * call, so that a test which makes more calls of one object is ended.
 */
final class Desk {

    private static final int MOST_CALLS = 512;

    private final AlarmDesk desk = new AlarmDesk();
    private int calls;

    int callsLeft() {
        return MOST_CALLS - calls;
    }

    private AlarmDesk next() {
        if (calls >= MOST_CALLS) {
            throw new IllegalStateException("a test makes more than 512 calls of one desk");
        }
        calls++;
        return desk;
    }

    int add(int limit, int priority) {
        return next().add(limit, priority);
    }

    int set(int point, int setting, int value) {
        return next().set(point, setting, value);
    }

    int setRoot(int point, int root) {
        return next().setRoot(point, root);
    }

    int setValue(int point, int value) {
        return next().setValue(point, value);
    }

    int point(int point, int what) {
        return next().point(point, what);
    }

    int points() {
        return next().points();
    }

    int setState(int state) {
        return next().setState(state);
    }

    int setFlood(int window, int high, int low) {
        return next().setFlood(window, high, low);
    }

    int tick(int ticks) {
        return next().tick(ticks);
    }

    int plant(int what) {
        return next().plant(what);
    }

    int ack(int point) {
        return next().ack(point);
    }

    int ackAll() {
        return next().ackAll();
    }

    int shelve(int point, int ticks) {
        return next().shelve(point, ticks);
    }

    int unshelve(int point) {
        return next().unshelve(point);
    }

    int list(int i) {
        return next().list(i);
    }

    int count(int what) {
        return next().count(what);
    }

    int events() {
        return next().events();
    }

    int event(int i, int what) {
        return next().event(i, what);
    }

    float meanAck() {
        return next().meanAck();
    }

    int worst() {
        return next().worst();
    }

    int replay(int point, int deadband) {
        return next().replay(point, deadband);
    }

    int leastDeadband(int point, int times) {
        return next().leastDeadband(point, times);
    }

    int type(int c) {
        return next().type(c);
    }

    int clear() {
        return next().clear();
    }

    int run() {
        return next().run();
    }

    int undo() {
        return next().undo();
    }

    long fingerprint() {
        return next().fingerprint();
    }
}
