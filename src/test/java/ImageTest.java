/** Promises 47 to 49: what is kept and comes back, and status. */
public final class ImageTest {
    private static final Check c = new Check();

    public static void main(String[] args) {
        promise47And48KeepsAll();
        promise48BackSeveralTimes();
        promise48Shelves();
        promise48AnswersOfWhatCameBack();
        promise48LeavesTapeAndRefusals();
        promise49Status();
        c.end();
    }

    private static void promise47And48KeepsAll() {
        WhiteElephants x = new WhiteElephants();
        x.thing(1, 100, 0);
        x.thing(0, 60, 0);
        x.lady(1, 20);
        Check.law(x, "known 50");
        x.goes(0, 0);
        x.mark(0, 70);
        x.buyer(0, 100, 3, 100);
        x.table(1);
        x.sight(1, 0, -1, 3);
        x.secret(0, 4);
        x.looks(4, 1);
        x.turn(0, 6);
        x.turn(1, 9);
        x.go(2);
        c.due(x.image(), 1);
        x.thing(2, 7, 0);
        x.chip(0, 3);
        x.lady(1, 20);
        Check.law(x, "known 10");
        x.goes(0, 1);
        x.price(0, 63);
        x.buyer(0, 5, 1, 100);
        x.table(2);
        x.sight(2, 0, 3, 3);
        x.secret(1, 4);
        x.looks(4, 7);
        x.turn(0, 3);
        x.turn(1, 4);
        x.go(3);
        c.due(x.back(), 1);
        for (int what = 0; what <= 6; what++) {
            c.due(x.status(what), what == 0 ? 2 : 1);
        }
        c.due(x.thingOf(0, 2), 0);
        c.due(x.thingOf(0, 3), 100);
        c.due(x.thingOf(0, 4), 70);
        c.due(x.thingOf(0, 5), 0);
        c.due(x.thingOf(0, 6), 70);
        c.due(x.thingOf(1, 4), -1);
        c.due(x.thingOf(1, 5), -1);
        c.due(x.buyerOf(0, 1), 30);
        c.due(x.buyerOf(0, 4), 1);
        c.due(x.lawOf(0, 0), 50);
        c.due(x.thinks(0, 1, false), 30);
        c.due(x.who(-1), 30);
        c.due(x.longest(), 1);
        c.due(x.laid(1, 0), 1);
        c.due(x.laid(1, 1), -1);
        c.due(x.day(0), 2);
        c.due(x.day(1), 70);
        c.due(x.day(2), 1);
        c.due(x.goes(0, -1), 0);
        c.due(x.looks(4, 0), 1);
        c.due(x.turn(0, 0), 6);
        c.due(x.turn(1, 0), 9);
    }

    private static void promise48BackSeveralTimes() {
        WhiteElephants x = new WhiteElephants();
        c.refused(x, -5, () -> x.back());
        x.image();
        x.thing(0, 1, 0);
        c.due(x.back(), 1);
        c.due(x.status(0), 0);
        x.thing(0, 2, 0);
        x.thing(0, 3, 0);
        c.due(x.back(), 1);
        c.due(x.status(0), 0);
        x.thing(0, 4, 0);
        c.due(x.image(), 1);
        x.thing(0, 5, 0);
        x.mark(0, 9);
        c.due(x.back(), 1);
        c.due(x.status(0), 1);
        c.due(x.thingOf(0, 1), 4);
        c.due(x.thingOf(0, 4), -1);
        // what came back can change without changing what is kept
        x.mark(0, 8);
        x.chip(0, 1);
        c.due(x.back(), 1);
        c.due(x.thingOf(0, 4), -1);
        c.due(x.thingOf(0, 2), 0);
        c.due(x.thing(0, 6, 0), 1);
    }

    private static void promise48Shelves() {
        WhiteElephants x = new WhiteElephants();
        x.thing(0, 1, 0);
        x.thing(0, 2, 0);
        x.row(3, 2, 2);
        x.set(3, 0, 5);
        x.show(4, 0);
        x.image();
        x.thing(0, 3, 0);
        x.show(0, 1);
        x.show(1, 2);
        x.row(2, 3, 4);
        x.set(2, 1, 44);
        x.row(3, 2, 2);
        x.show(4, -1);
        c.due(x.status(8), 4);
        c.due(x.holds(0), 11);
        c.due(x.holds(1), 12);
        c.due(x.back(), 1);
        c.due(x.holds(0), 11);
        c.due(x.holds(1), -1);
        c.due(x.holds(2), 3);
        c.due(x.element(2, 1), 44);
        c.due(x.element(3, 0), 0);
        c.due(x.holds(4), -1);
        c.due(x.status(8), 3);
        // a new THING of the lost one's number is not on the SHELF
        c.due(x.thing(0, 9, 0), 2);
        c.due(x.holds(1), -1);
        c.refused(x, -4, () -> x.says(1, 0));
    }

    private static void promise48AnswersOfWhatCameBack() {
        WhiteElephants x = new WhiteElephants();
        x.thing(0, 50, 0);
        x.thing(0, 40, 0);
        x.mark(0, 30);
        x.buyer(0, 100, 1, 100);
        x.sight(1, 0, 2, 3);
        c.due(x.takes(0, 0), 0);
        c.due(x.shortBy(30), -1);
        x.image();
        c.due(x.go(1), 30);
        x.mark(1, 5);
        x.sight(2, 0, 3, 4);
        c.due(x.takes(0, 0), 1);
        c.due(x.shortBy(30), 1);
        c.due(x.same(0, 1), 1);
        c.due(x.hall(0, 0), -1);
        c.due(x.hall(0, 1), 0);
        c.due(x.shown(2), 2);
        c.due(x.takings(12, 12), 5);
        x.back();
        c.due(x.takes(0, 0), 0);
        c.due(x.shortBy(30), -1);
        c.bad(x, () -> x.same(0, 1));
        c.due(x.hall(0, 0), 0);
        c.due(x.hall(0, 1), 1);
        c.due(x.shown(2), 1);
        c.due(x.takings(12, 12), 30);
        // another SIGHTING gets the number that was lost
        c.due(x.sight(2, 0, 9, 4), 1);
        c.due(x.same(0, 1), 0);
        c.due(x.vases(), 2);
    }

    private static void promise48LeavesTapeAndRefusals() {
        WhiteElephants x = new WhiteElephants();
        Check.feed(x, "known ");
        x.image();
        x.wipe();
        Check.feed(x, "least 5");
        c.bad(x, () -> x.thing(9, 9, 9));
        c.due(x.back(), 1);
        c.due(x.status(7), 7);
        c.due(x.status(12), 1);
        c.due(x.law(), 0);
        c.due(x.lawOf(0, 3), 5);
        c.due(x.back(), 1);
        c.bad(x, () -> x.lawOf(0, 3));
    }

    private static void promise49Status() {
        WhiteElephants x = new WhiteElephants();
        x.thing(0, 1, 0);
        x.lady(0, 0);
        x.lady(0, 0);
        for (int i = 0; i < 3; i++) {
            Check.law(x, "known 5");
        }
        for (int i = 0; i < 4; i++) {
            x.buyer(0, 0, 0, 0);
        }
        for (int i = 0; i < 5; i++) {
            x.table(0);
        }
        for (int i = 0; i < 6; i++) {
            x.sight(0, 0, 0, 0);
        }
        for (int i = 0; i < 7; i++) {
            x.secret(0, 0);
        }
        Check.feed(x, "eight   ");
        x.row(1, 1, 1);
        x.row(2, 2, 0);
        x.show(3, 0);
        for (int what = 0; what <= 7; what++) {
            c.due(x.status(what), what + 1);
        }
        c.due(x.status(8), 3);
        x.thing(6, 0, 0);
        x.law();
        x.says(1, 0);
        x.set(3, 0, 0);
        x.set(3, 9, 0);
        for (int i = 0; i < 4; i++) {
            x.set(7, i, 0);
        }
        for (int i = 0; i < 5; i++) {
            x.who(0);
        }
        for (int i = 0; i < 6; i++) {
            x.table(0);
        }
        c.due(x.status(12), 2);
        c.due(x.status(13), 3);
        c.due(x.status(14), 4);
        c.due(x.status(15), 5);
        c.due(x.status(16), 6);
        for (int what : new int[] {-1, 9, 10, 11, 17, 18, Integer.MIN_VALUE, Integer.MAX_VALUE}) {
            c.due(x.status(what), -1);
        }
        c.due(x.status(12), 2);
    }
}
