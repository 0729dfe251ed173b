/** Promise 10: tick; alarms, shelves and floods as the time goes on. */
public final class Promise10TickTest {

    private static final int NONE = AlarmDesk.NONE;

    public static void main(String[] args) {
        Check.promise(10, "tick");
        leastAndMost();
        outsideTheRange();
        lastTime();
        allElseGoesOnAtTheLastTime();
        isOneAct();
        leavesAllElse();
        manyTicksAreSingleOnes();
        overHigh();
        overLow();
        clearHigh();
        clearLow();
        farthestLimits();
        delaysOn();
        delaysOff();
        countBeginsAgain();
        activation();
        activationWhileItStands();
        pointsInAscendingOrder();
        shelfEnds();
        shelfEndsInAscendingOrder();
        partsOfATickInOrder();
        Check.end();
    }

    private static void leastAndMost() {
        Desk desk = new Desk();
        Check.due("tick(1)", desk.tick(1), 1);
        Check.due("tick(100)", desk.tick(100), 101);
        Check.due("tick(99)", desk.tick(99), 200);
        Check.due("plant(0)", desk.plant(0), 200);
    }

    private static void outsideTheRange() {
        Check.outside("tick()", 1, 100, Desks::busy, (d, x) -> d.tick(x));
        Check.outside("tick() of a new desk", 1, 100, Desks::fresh, (d, x) -> d.tick(x));
        Check.outside("tick() at 10000", 1, 100, Desks::late, (d, x) -> d.tick(x));
    }

    private static Desk at(int time) {
        Desk desk = new Desk();
        desk.add(0, 2);
        Desks.tickTo(desk, time);
        return desk;
    }

    private static void lastTime() {
        Check.due("tick(100) at 9900", at(9900).tick(100), 10000);
        Check.refused("tick(100) at 9901", AlarmDesk.STATE, () -> at(9901), d -> d.tick(100));
        Check.due("tick(99) at 9901", at(9901).tick(99), 10000);
        Check.refused("tick(2) at 9999", AlarmDesk.STATE, () -> at(9999), d -> d.tick(2));
        Check.due("tick(1) at 9999", at(9999).tick(1), 10000);
        Check.refused("tick(1) at 10000", AlarmDesk.STATE, Desks::late, d -> d.tick(1));
        Check.refused("tick(100) at 10000", AlarmDesk.STATE, Desks::late, d -> d.tick(100));
    }

    private static void allElseGoesOnAtTheLastTime() {
        Check.oneAct("add() at 10000", 2, Desks::late, d -> d.add(0, 1));
        Check.oneAct("set() at 10000", 0, Desks::late, d -> d.set(0, 2, 5));
        Check.oneAct("setRoot() at 10000", -1, Desks::late, d -> d.setRoot(0, 1));
        Check.oneAct("setValue() at 10000", 0, Desks::late, d -> d.setValue(0, -1));
        Check.oneAct("setState() at 10000", 0, Desks::late, d -> d.setState(3));
        Check.oneAct("setFlood() at 10000", 15050, Desks::late, d -> d.setFlood(10, 5, 2));
        Check.oneAct("ack() at 10000", 9999, Desks::late, d -> d.ack(0));
        Check.oneAct("ackAll() at 10000", 2, Desks::late, d -> d.ackAll());
        Check.oneAct("shelve() at 10000", 10001, Desks::late, d -> d.shelve(0, 1));
        Check.due("run() at 10000", Desks.run(Desks.late(), "state 1;shelve 0:1;ack 0"), 3);
        Desk desk = Desks.late();
        desk.shelve(0, 5);
        Check.due("unshelve() at 10000", desk.unshelve(0), 5);
        desk.undo();
        desk.undo();
        Check.due("undo() of the last tick()", desk.undo(), 1);
        Check.due("plant(0) after it", desk.plant(0), 9997);
        Check.due("the time again", desk.tick(3), 10000);
    }

    private static void isOneAct() {
        Check.oneAct("tick(1)", 4, Desks::busy, d -> d.tick(1));
        Check.oneAct("tick(100)", 103, Desks::busy, d -> d.tick(100));
        Check.oneAct("tick(100) of a new desk", 100, Desks::fresh, d -> d.tick(100));
        Check.oneAct("tick(1) at 9999", 10000, () -> at(9999), d -> d.tick(1));
    }

    private static void leavesAllElse() {
        Check.changesOnly("tick(1)", Desks::busy, d -> d.tick(1), "plant(0)", "point(2, 11)");
        Check.changesOnly("tick(1) with another value", Desks::busy, d -> {
            d.setValue(2, 6);
            return d.tick(1);
        }, "plant(0)", "point(2, 7)", "point(2, 11)");
    }

    private static void manyTicksAreSingleOnes() {
        Desk many = Desks.busy();
        Desk single = Desks.busy();
        many.tick(60);
        for (int k = 0; k < 60; k++) {
            single.tick(1);
        }
        Check.sameFromNowOn("of tick(60) and 60 times tick(1)", many, single);
    }

    /** Answers whether the point is in alarm after a tick with the value. */
    private static int alarmBy(Desk desk, int value) {
        desk.setValue(0, value);
        desk.tick(1);
        return desk.point(0, 9);
    }

    private static Desk withPoint(int kind, int limit, int deadband) {
        Desk desk = new Desk();
        desk.add(limit, 2);
        desk.set(0, 0, kind);
        desk.set(0, 2, deadband);
        return desk;
    }

    private static void overHigh() {
        for (int deadband : new int[] {0, 3}) {
            Desk desk = withPoint(0, 10, deadband);
            Check.due("high 10 with 9", alarmBy(desk, 9), 0);
            Check.due("high 10 with -10000", alarmBy(desk, -10000), 0);
            Check.due("high 10 with 10", alarmBy(desk, 10), 1);
            Check.due("high 10 with 11", alarmBy(withPoint(0, 10, deadband), 11), 1);
        }
    }

    private static void overLow() {
        for (int deadband : new int[] {0, 3}) {
            Desk desk = withPoint(1, 10, deadband);
            Check.due("low 10 with 11", alarmBy(desk, 11), 0);
            Check.due("low 10 with 10000", alarmBy(desk, 10000), 0);
            Check.due("low 10 with 10", alarmBy(desk, 10), 1);
            Check.due("low 10 with 9", alarmBy(withPoint(1, 10, deadband), 9), 1);
        }
    }

    private static void clearHigh() {
        for (int deadband : new int[] {0, 1, 3, 1000}) {
            Desk desk = withPoint(0, 10, deadband);
            String with = " with the deadband " + deadband;
            Check.due("10 is over" + with, alarmBy(desk, 10), 1);
            Check.due("10 is not clear" + with, alarmBy(desk, 10), 1);
            Check.due("the edge is not clear" + with, alarmBy(desk, 10 - deadband), 1);
            Check.due("below the edge is clear" + with, alarmBy(desk, 10 - deadband - 1), 0);
        }
    }

    private static void clearLow() {
        for (int deadband : new int[] {0, 1, 3, 1000}) {
            Desk desk = withPoint(1, 10, deadband);
            String with = " with the deadband " + deadband;
            Check.due("10 is over for low" + with, alarmBy(desk, 10), 1);
            Check.due("10 is not clear for low" + with, alarmBy(desk, 10), 1);
            Check.due("the edge is not clear for low" + with, alarmBy(desk, 10 + deadband), 1);
            Check.due("above the edge is clear for low" + with, alarmBy(desk, 10 + deadband + 1),
                    0);
        }
    }

    private static void farthestLimits() {
        Desk most = withPoint(0, 10000, 0);
        Check.due("high 10000 with 9999", alarmBy(most, 9999), 0);
        Check.due("high 10000 with 10000", alarmBy(most, 10000), 1);
        Check.due("high 10000 with 9999 then", alarmBy(most, 9999), 0);
        Desk always = withPoint(0, -10000, 1);
        Check.due("high -10000 with -10000", alarmBy(always, -10000), 1);
        Check.due("high -10000 is never clear", alarmBy(always, -10000), 1);
        Desk wide = withPoint(0, -9000, 1000);
        Check.due("high -9000 with -9000", alarmBy(wide, -9000), 1);
        Check.due("-10000 is at its edge", alarmBy(wide, -10000), 1);
        Desk least = withPoint(1, -10000, 0);
        Check.due("low -10000 with -9999", alarmBy(least, -9999), 0);
        Check.due("low -10000 with -10000", alarmBy(least, -10000), 1);
        Check.due("low -10000 with -9999 then", alarmBy(least, -9999), 0);
        Desk low = withPoint(1, 10000, 1);
        Check.due("low 10000 with 10000", alarmBy(low, 10000), 1);
        Check.due("low 10000 is never clear", alarmBy(low, 10000), 1);
        Desk wideLow = withPoint(1, 9000, 1000);
        Check.due("low 9000 with 9000", alarmBy(wideLow, 9000), 1);
        Check.due("10000 is at its edge", alarmBy(wideLow, 10000), 1);
    }

    private static void delaysOn() {
        for (int delay : new int[] {0, 1, 19, 20}) {
            Desk desk = withPoint(0, 0, 0);
            desk.set(0, 3, delay);
            for (int k = 1; k <= delay; k++) {
                desk.tick(1);
                Check.due("alarm after " + k + " with the delay " + delay, desk.point(0, 9), 0);
                Check.due("its count", desk.point(0, 11), k);
            }
            desk.tick(1);
            Check.due("alarm behind the delay " + delay, desk.point(0, 9), 1);
            Check.due("its count", desk.point(0, 11), 0);
            Check.due("its time", desk.point(0, 12), delay + 1);
        }
    }

    private static void delaysOff() {
        for (int delay : new int[] {0, 1, 19, 20}) {
            Desk desk = withPoint(0, 0, 0);
            desk.set(0, 4, delay);
            desk.tick(1);
            desk.setValue(0, -1);
            for (int k = 1; k <= delay; k++) {
                desk.tick(1);
                Check.due("alarm after " + k + " with the delay off " + delay, desk.point(0, 9), 1);
                Check.due("its count", desk.point(0, 11), k);
            }
            desk.tick(1);
            Check.due("alarm behind the delay off " + delay, desk.point(0, 9), 0);
            Check.due("its count", desk.point(0, 11), 0);
            Check.latestEvent(desk, "the end of the alarm", delay + 2, 2, 0);
            Check.due("its time stays", desk.point(0, 12), 1);
        }
    }

    private static void countBeginsAgain() {
        Desk desk = withPoint(0, 0, 5);
        desk.set(0, 3, 2);
        desk.set(0, 4, 2);
        desk.tick(2);
        Check.due("count", desk.point(0, 11), 2);
        Check.due("a value that is not over", alarmBy(desk, -1), 0);
        Check.due("count", desk.point(0, 11), 0);
        desk.setValue(0, 0);
        desk.tick(2);
        Check.due("count again", desk.point(0, 11), 2);
        desk.tick(1);
        Check.due("in alarm", desk.point(0, 9), 1);
        desk.setValue(0, -6);
        desk.tick(2);
        Check.due("count", desk.point(0, 11), 2);
        Check.due("a value within the deadband", alarmBy(desk, -5), 1);
        Check.due("count", desk.point(0, 11), 0);
        Check.due("a clear value", alarmBy(desk, -6), 1);
        Check.due("count again", desk.point(0, 11), 1);
        Check.due("a value that is over", alarmBy(desk, 0), 1);
        Check.due("count", desk.point(0, 11), 0);
    }

    private static void activation() {
        Desk desk = withPoint(0, 0, 0);
        desk.tick(1);
        Check.due("in alarm", desk.point(0, 9), 1);
        Check.due("not acknowledged", desk.point(0, 10), 0);
        Check.due("count", desk.point(0, 11), 0);
        Check.due("time", desk.point(0, 12), 1);
        Check.due("activations", desk.point(0, 14), 1);
        Check.due("all activations", desk.plant(4), 1);
        Check.latestEvent(desk, "the activation", 1, 1, 0);
        desk.tick(100);
        Check.due("events() while it is in alarm", desk.events(), 1);
        desk.ack(0);
        desk.setValue(0, -1);
        desk.tick(1);
        Check.due("acknowledged still when the alarm ends", desk.point(0, 10), 1);
        desk.setValue(0, 0);
        desk.tick(1);
        Check.due("not acknowledged again", desk.point(0, 10), 0);
        Check.due("time", desk.point(0, 12), 103);
    }

    private static void activationWhileItStands() {
        Desk desk = withPoint(0, 1, 0);
        Desks.tickValues(desk, 0, 1, 0, 1);
        Check.due("activations", desk.point(0, 14), 2);
        Check.due("time of the latest one", desk.point(0, 12), 3);
        Check.due("one that stands", desk.count(0), 1);
        Check.due("ack(0)", desk.ack(0), 0);
    }

    /** Ends of alarms and activations come as the points do, not the ones before the others. */
    private static void pointsInAscendingOrder() {
        Desk desk = new Desk();
        desk.setFlood(1, 50, 50);
        for (int k = 0; k < 4; k++) {
            desk.add(k % 2 == 0 ? 0 : 100, 4 - k);
        }
        desk.tick(1);
        Check.eventIs(desk, "the first tick", 1, 1, 1, 0);
        Check.eventIs(desk, "the first tick", 0, 1, 1, 2);
        for (int k = 0; k < 4; k++) {
            desk.setValue(k, k % 2 == 0 ? -1 : 100);
        }
        desk.tick(1);
        for (int k = 0; k < 4; k++) {
            Check.eventIs(desk, "the second tick", 3 - k, 2, k % 2 == 0 ? 2 : 1, k);
        }
        Check.due("events()", desk.events(), 6);
    }

    private static void shelfEnds() {
        for (int ticks : new int[] {1, 2, 5, 1000}) {
            Desk desk = Desks.withPoints(1);
            desk.tick(3);
            desk.shelve(0, ticks);
            Desks.tickTo(desk, 3 + ticks - 1);
            Check.due("a tick before the end", desk.point(0, 13), 3 + ticks);
            Check.due("events()", desk.events(), 1);
            desk.tick(1);
            Check.due("at the end", desk.point(0, 13), 0);
            Check.due("events()", desk.events(), 2);
            Check.latestEvent(desk, "the end of the shelf", 3 + ticks, 5, 0);
            desk.tick(1);
            Check.due("events() a tick later", desk.events(), 2);
        }
        Desk across = Desks.withPoints(1);
        across.shelve(0, 40);
        across.tick(100);
        Check.due("plant(0)", across.plant(0), 100);
        Check.latestEvent(across, "tick(100)", 40, 5, 0);
    }

    private static void shelfEndsInAscendingOrder() {
        Desk desk = Desks.withPoints(3);
        desk.shelve(2, 3);
        desk.shelve(0, 3);
        desk.tick(1);
        desk.shelve(1, 2);
        desk.tick(2);
        for (int k = 0; k < 3; k++) {
            Check.eventIs(desk, "three ends", 2 - k, 3, 5, k);
        }
    }

    private static void partsOfATickInOrder() {
        Desk desk = new Desk();
        desk.setFlood(5, 1, 0);
        desk.add(0, 2);
        desk.add(1, 2);
        desk.add(0, 2);
        desk.setValue(1, 1);
        desk.shelve(0, 1);
        desk.tick(1);
        int[] kinds = {4, 1, 1, 1, 5, 6};
        int[] points = {0, 0, 1, 2, 0, NONE};
        Check.due("events()", desk.events(), kinds.length);
        for (int k = 0; k < kinds.length; k++) {
            int time = k == 0 ? 0 : 1;
            Check.eventIs(desk, "a tick", kinds.length - 1 - k, time, kinds[k], points[k]);
        }
        Check.due("the value is put down", desk.replay(0, 0), 1);
        desk.shelve(1, 5);
        desk.setValue(2, -1);
        desk.tick(5);
        Check.eventIs(desk, "the end of a flood", 1, 6, 5, 1);
        Check.eventIs(desk, "the end of a flood", 0, 6, 7, NONE);
        Check.eventIs(desk, "the end of a flood", 2, 2, 2, 2);
    }
}
