/** Promise 19: event. */
public final class Promise19EventTest {

    private static final int NONE = AlarmDesk.NONE;

    public static void main(String[] args) {
        Check.promise(19, "event");
        outsideTheRanges();
        noSuchEvent();
        eachKind();
        thirtyAreKept();
        thirtyOfMoreInOneTick();
        afterUndo();
        keptOnesComeBackByUndo();
        Check.end();
    }

    private static void outsideTheRanges() {
        Check.outside("event() of what", 0, 2, Desks::busy, (d, x) -> d.event(0, x));
        Check.outside("event() of what", 0, 2, Desks::fresh, (d, x) -> d.event(0, x));
        for (int i : new int[] {-1, -2, Integer.MIN_VALUE}) {
            Check.refused("event(" + i + ", 0)", AlarmDesk.BAD, Desks::busy, d -> d.event(i, 0));
        }
        Check.refused("event(-1, 3)", AlarmDesk.BAD, Desks::busy, d -> d.event(-1, 3));
        Check.refused("event(99, 3)", AlarmDesk.BAD, Desks::busy, d -> d.event(99, 3));
        Check.refused("event(99, -1)", AlarmDesk.BAD, Desks::busy, d -> d.event(99, -1));
    }

    private static void noSuchEvent() {
        Desk desk = Desks.withPoints(1);
        for (int what = 0; what <= 2; what++) {
            Check.due("event(0, " + what + ") of none", desk.event(0, what), NONE);
        }
        desk.shelve(0, 1);
        Check.due("event(0, 1)", desk.event(0, 1), 4);
        for (int i : new int[] {1, 2, 29, 30, 31, Integer.MAX_VALUE}) {
            for (int what = 0; what <= 2; what++) {
                Check.due("event(" + i + ", " + what + ") of one", desk.event(i, what), NONE);
            }
        }
    }

    private static void eachKind() {
        Desk desk = new Desk();
        desk.add(100, 3);
        desk.add(0, 3);
        desk.add(0, 3);
        desk.setFlood(2, 1, 0);
        desk.tick(1);
        Check.eventIs(desk, "activations", 2, 1, 1, 1);
        Check.eventIs(desk, "activations", 1, 1, 1, 2);
        Check.eventIs(desk, "a flood begins", 0, 1, 6, NONE);
        desk.setValue(1, -1);
        desk.tick(1);
        Check.latestEvent(desk, "no longer in alarm", 2, 2, 1);
        desk.ack(2);
        Check.latestEvent(desk, "acknowledged", 2, 3, 2);
        desk.tick(1);
        Check.latestEvent(desk, "the flood ends", 3, 7, NONE);
        desk.shelve(0, 7);
        Check.latestEvent(desk, "shelved", 3, 4, 0);
        desk.unshelve(0);
        Check.latestEvent(desk, "not shelved any more by a call", 3, 5, 0);
        desk.shelve(2, 3);
        desk.tick(4);
        Check.latestEvent(desk, "not shelved any more by time", 6, 5, 2);
        desk.shelve(1, 3);
        desk.set(1, 5, 1);
        Check.latestEvent(desk, "not shelved any more with priority 1", 7, 5, 1);
        Check.due("events()", desk.events(), 12);
    }

    private static void thirtyAreKept() {
        Desk desk = Desks.withPoints(2);
        for (int k = 1; k <= 29; k++) {
            desk.tick(1);
            desk.shelve(0, 100);
        }
        Check.eventIs(desk, "29 events", 28, 1, 4, 0);
        Check.due("event(29, 0) of 29", desk.event(29, 0), NONE);
        desk.tick(1);
        desk.shelve(1, 100);
        Check.eventIs(desk, "30 events", 29, 1, 4, 0);
        Check.latestEvent(desk, "30 events", 30, 4, 1);
        Check.due("event(30, 0) of 30", desk.event(30, 0), NONE);
        desk.tick(1);
        desk.unshelve(0);
        Check.eventIs(desk, "31 events", 29, 2, 4, 0);
        Check.latestEvent(desk, "31 events", 31, 5, 0);
        Check.eventIs(desk, "31 events", 1, 30, 4, 1);
        for (int what = 0; what <= 2; what++) {
            Check.due("event(30, " + what + ") of 31", desk.event(30, what), NONE);
        }
        Check.due("event(31, 0) of 31", desk.event(31, 0), NONE);
        for (int k = 1; k <= 29; k++) {
            desk.shelve(1, 100);
        }
        Check.eventIs(desk, "60 events", 29, 31, 5, 0);
        Check.due("event(30, 1) of 60", desk.event(30, 1), NONE);
    }

    /** 16 activations, 16 ends of shelves and a flood, all at 1. */
    private static void thirtyOfMoreInOneTick() {
        Desk desk = new Desk();
        for (int k = 0; k < 16; k++) {
            desk.add(0, 2);
            desk.shelve(k, 1);
        }
        desk.tick(1);
        Check.latestEvent(desk, "the tick", 1, 6, NONE);
        for (int k = 0; k < 16; k++) {
            Check.eventIs(desk, "the tick", 16 - k, 1, 5, k);
        }
        for (int k = 3; k < 16; k++) {
            Check.eventIs(desk, "the tick", 32 - k, 1, 1, k);
        }
        Check.due("event(30, 0)", desk.event(30, 0), NONE);
    }

    private static void afterUndo() {
        Desk desk = Desks.withPoints(2);
        desk.shelve(0, 5);
        desk.tick(1);
        desk.shelve(1, 5);
        desk.undo();
        Check.latestEvent(desk, "undo()", 0, 4, 0);
        Check.due("event(1, 0) after undo()", desk.event(1, 0), NONE);
        desk.unshelve(0);
        Check.latestEvent(desk, "another act", 1, 5, 0);
        Check.eventIs(desk, "another act", 1, 0, 4, 0);
    }

    private static void keptOnesComeBackByUndo() {
        Desk desk = Desks.withPoints(2);
        desk.shelve(0, 5);
        for (int k = 0; k < 29; k++) {
            desk.shelve(1, 5);
        }
        Desks.run(desk, "shelve 0:1;shelve 0:1;shelve 0:1;tick 9");
        Check.due("event(29, 2)", desk.event(29, 2), 1);
        desk.undo();
        Check.eventIs(desk, "undo()", 29, 0, 4, 0);
        Check.due("event(30, 2)", desk.event(30, 2), NONE);
    }
}
