/** Promises 1 to 7: a new object, SHELVES and ROWS. */
public final class ShelvesTest {
    private static final Check c = new Check();

    public static void main(String[] args) {
        promise1NewObject();
        promise1NothingInCommon();
        promise2Row();
        promise3Set();
        promise3SetRefuses();
        promise4Copy();
        promise4CopyRefuses();
        promise5Element();
        promises6And7HoldsAndShow();
        c.end();
    }

    private static void promise1NewObject() {
        WhiteElephants x = new WhiteElephants();
        for (int what = 0; what <= 8; what++) {
            c.due(x.status(what), 0);
        }
        for (int what = 12; what <= 16; what++) {
            c.due(x.status(what), 0);
        }
        for (int s = 0; s < 8; s++) {
            c.due(x.holds(s), -1);
            c.due(x.element(s, 0), 0);
        }
        for (int person = 0; person < 16; person++) {
            c.due(x.looks(person, 0), 0);
        }
        c.due(x.turn(0, 12), 12);
        c.due(x.turn(1, 12), 12);
        c.due(x.day(0), 0);
        c.due(x.day(1), 0);
        c.due(x.day(2), 0);
        c.due(x.day(3), 0);
        c.due(x.wipe(), 0);
        c.due(x.morning(), 0);
        c.due(x.rest(-1), 0);
        c.due(x.takings(0, 0), 0);
        c.due(x.best(), 1212);
        c.due(x.shown(200), 0);
        c.due(x.who(-1), 0);
        c.due(x.vases(), 0);
        c.due(x.longest(), 0);
        c.due(x.shortBy(1), -1);
        c.refused(x, -5, () -> x.back());
        c.due(WhiteElephants.NONE, -1);
    }

    /** Each question is asked of one object in between what is changed and asked in another one. */
    private static void promise1NothingInCommon() {
        WhiteElephants unused = new WhiteElephants();
        WhiteElephants[] both = {new WhiteElephants(), new WhiteElephants()};
        for (WhiteElephants x : both) {
            Scenes.rich(x);
        }
        WhiteElephants x = both[0];
        WhiteElephants y = both[1];
        y.wipe();
        y.chip(0, 7);
        y.thing(1, 5, 0);
        y.row(0, 1, 1);
        y.image();
        y.go(9);
        y.sight(98, 255, -1, -1);
        y.looks(3, 31);
        y.turn(0, 0);
        y.thing(9, 9, 9);
        c.due(x.status(0), 12);
        c.due(x.status(5), 6);
        c.due(x.status(7), 17);
        c.due(x.status(12), 2);
        c.due(x.day(0), 3);
        c.due(x.element(0, 4), 90);
        c.due(x.holds(0), 2);
        c.due(x.thingOf(0, 2), 4);
        c.due(x.who(-1), 1757);
        c.due(y.best(), 1212);
        c.due(x.best(), 1112);
        c.due(x.shown(30), 409);
        c.due(y.shown(30), 0);
        c.due(x.shortBy(511), 2050);
        c.due(x.laid(1, 5), 2);
        c.due(x.vases(), 2);
        c.due(x.longest(), 5);
        c.due(x.looks(3, 8), 8);
        c.due(x.turn(0, 7), 7);
        c.due(x.law(), 3);
        c.due(y.law(), -20);
        c.due(x.back(), 1);
        c.due(x.status(0), 10);
        c.due(x.day(0), 1);
        c.due(y.day(0), 12);
        c.due(y.back(), 1);
        c.due(y.status(0), 13);
        c.due(y.day(0), 3);
        // and those that are new have nothing of both
        for (WhiteElephants z : new WhiteElephants[] {unused, new WhiteElephants()}) {
            c.due(z.status(0), 0);
            c.due(z.holds(0), -1);
            c.refused(z, -5, () -> z.back());
        }
        c.due(x.back(), 1);
        c.due(x.status(0), 10);
    }

    private static void promise2Row() {
        WhiteElephants x = new WhiteElephants();
        for (int sort = 0; sort < 5; sort++) {
            c.due(x.row(sort, sort, 3), 1);
            c.due(x.holds(sort), sort);
            c.due(x.element(sort, 2), 0);
        }
        c.due(x.row(7, 3, 40), 1);
        c.due(x.set(7, 39, 8), 1);
        c.due(x.row(7, 3, 40), 1);
        c.due(x.element(7, 39), 0);
        c.due(x.row(7, 4, 0), 1);
        c.due(x.holds(7), 4);
        c.bad(x, () -> x.set(7, 0, 1));
        x.set(0, 1, 5);
        c.bad(x, () -> x.row(-1, 0, 3));
        c.bad(x, () -> x.row(8, 0, 3));
        c.bad(x, () -> x.row(0, -1, 3));
        c.bad(x, () -> x.row(0, 5, 3));
        c.bad(x, () -> x.row(0, 0, -1));
        c.bad(x, () -> x.row(0, 0, 41));
        c.bad(x, () -> x.row(Integer.MIN_VALUE, Integer.MAX_VALUE, Integer.MIN_VALUE));
        c.due(x.element(0, 1), 5);
        x.thing(0, 1, 0);
        x.show(0, 0);
        c.due(x.row(0, 2, 1), 1);
        c.due(x.holds(0), 2);
        // a shorter ROW, then a longer one: what was there does not come back
        x.row(1, 2, 4);
        x.set(1, 3, 9);
        x.row(1, 2, 1);
        x.row(1, 2, 4);
        c.due(x.element(1, 3), 0);
    }

    private static void put(WhiteElephants x, int s, long v, long want) {
        c.due(x.set(s, 1, v), 1);
        c.due(x.element(s, 1), want);
    }

    private static void promise3Set() {
        WhiteElephants x = new WhiteElephants();
        for (int sort = 0; sort < 5; sort++) {
            x.row(sort, sort, 2);
        }
        put(x, 0, 127, 127);
        put(x, 0, 128, -128);
        put(x, 0, 200, -56);
        put(x, 0, -129, 127);
        put(x, 0, 256, 0);
        put(x, 0, Long.MAX_VALUE, -1);
        put(x, 1, 32767, 32767);
        put(x, 1, 32768, -32768);
        put(x, 1, 65536, 0);
        put(x, 1, -32769, 32767);
        put(x, 2, 2147483647L, 2147483647L);
        put(x, 2, 2147483648L, -2147483648L);
        put(x, 2, (1L << 32) + 5, 5);
        put(x, 3, Long.MIN_VALUE, Long.MIN_VALUE);
        put(x, 3, Long.MAX_VALUE, Long.MAX_VALUE);
        put(x, 4, 1, 1);
        put(x, 4, 2, 1);
        put(x, 4, 256, 1);
        put(x, 4, 1L << 40, 1);
        put(x, 4, -1, 1);
        put(x, 4, 0, 0);
        c.due(x.element(0, 0), 0);
    }

    private static void promise3SetRefuses() {
        WhiteElephants x = new WhiteElephants();
        x.thing(0, 1, 0);
        x.show(0, 0);
        x.row(1, 2, 3);
        c.bad(x, () -> x.set(-1, 0, 1));
        c.bad(x, () -> x.set(8, 0, 1));
        c.refused(x, -3, () -> x.set(0, -1, 1));
        c.refused(x, -4, () -> x.set(2, -1, 1));
        c.bad(x, () -> x.set(1, -1, 1));
        c.bad(x, () -> x.set(1, 3, 1));
        c.bad(x, () -> x.set(1, Integer.MAX_VALUE, 1));
        c.due(x.holds(0), 10);
        c.due(x.holds(2), -1);
    }

    private static void numbers(WhiteElephants x, int s, int sort, int n) {
        x.row(s, sort, n);
        for (int i = 0; i < n; i++) {
            x.set(s, i, i + 1);
        }
    }

    private static void dueRow(WhiteElephants x, int s, int... want) {
        for (int i = 0; i < want.length; i++) {
            c.due(x.element(s, i), want[i]);
        }
    }

    private static void promise4Copy() {
        WhiteElephants x = new WhiteElephants();
        numbers(x, 0, 2, 6);
        x.row(1, 2, 4);
        c.due(x.copy(0, 1, 3, 1, 2), 2);
        dueRow(x, 1, 0, 4, 5, 0);
        c.due(x.copy(0, 1, 2, 0, 4), 4);
        dueRow(x, 1, 3, 4, 5, 6);
        dueRow(x, 0, 1, 2, 3, 4, 5, 6);
        // within one ROW, both ways: as they were
        c.due(x.copy(0, 0, 0, 2, 4), 4);
        dueRow(x, 0, 1, 2, 1, 2, 3, 4);
        numbers(x, 0, 2, 6);
        c.due(x.copy(0, 0, 2, 0, 4), 4);
        dueRow(x, 0, 3, 4, 5, 6, 5, 6);
        c.due(x.copy(0, 1, 6, 4, 0), 0);
        c.due(x.copy(0, 1, 0, 0, 0), 0);
        x.row(2, 2, 0);
        c.due(x.copy(2, 2, 0, 0, 0), 0);
        numbers(x, 3, 4, 2);
        x.row(4, 4, 2);
        c.due(x.copy(3, 4, 0, 0, 2), 2);
        dueRow(x, 4, 1, 1);
    }

    private static void promise4CopyRefuses() {
        WhiteElephants x = new WhiteElephants();
        x.thing(0, 1, 0);
        x.show(0, 0);
        numbers(x, 1, 2, 4);
        numbers(x, 2, 2, 3);
        numbers(x, 3, 3, 3);
        c.bad(x, () -> x.copy(-1, 1, 0, 0, 1));
        c.bad(x, () -> x.copy(8, 1, 0, 0, 1));
        c.bad(x, () -> x.copy(0, -1, 0, 0, 1));
        c.bad(x, () -> x.copy(1, 8, 0, 0, 1));
        c.refused(x, -3, () -> x.copy(0, 1, 0, 0, 1));
        c.refused(x, -3, () -> x.copy(1, 0, 0, 0, 1));
        c.refused(x, -3, () -> x.copy(0, 5, 0, 0, 1));
        c.refused(x, -3, () -> x.copy(5, 0, 0, 0, 1));
        c.refused(x, -3, () -> x.copy(1, 3, -1, 0, 1));
        c.refused(x, -4, () -> x.copy(1, 5, -1, 0, 1));
        c.refused(x, -4, () -> x.copy(5, 1, 0, -1, 1));
        c.refused(x, -4, () -> x.copy(5, 6, 0, 0, -1));
        c.bad(x, () -> x.copy(1, 2, -1, 0, 1));
        c.bad(x, () -> x.copy(1, 2, 0, -1, 1));
        c.bad(x, () -> x.copy(1, 2, 0, 0, -1));
        c.bad(x, () -> x.copy(1, 2, 0, 0, 4));
        c.bad(x, () -> x.copy(1, 2, 2, 0, 3));
        c.bad(x, () -> x.copy(1, 2, 0, 1, 3));
        c.bad(x, () -> x.copy(1, 2, 5, 0, 0));
        c.bad(x, () -> x.copy(1, 2, 0, 4, 0));
        c.bad(x, () -> x.copy(1, 2, 1, 1, Integer.MAX_VALUE));
        c.bad(x, () -> x.copy(1, 2, Integer.MAX_VALUE, 0, 1));
        dueRow(x, 1, 1, 2, 3, 4);
        dueRow(x, 2, 1, 2, 3);
    }

    private static void promise5Element() {
        WhiteElephants x = new WhiteElephants();
        x.thing(0, 1, 0);
        x.show(0, 0);
        numbers(x, 1, 3, 2);
        c.due(x.element(1, 0), 1);
        c.due(x.element(1, 1), 2);
        c.due(x.element(1, 2), 0);
        c.due(x.element(1, -1), 0);
        c.due(x.element(1, Integer.MIN_VALUE), 0);
        c.due(x.element(0, 0), 0);
        c.due(x.element(2, 0), 0);
        c.due(x.element(-1, 0), 0);
        c.due(x.element(8, 0), 0);
        for (int what = 12; what <= 16; what++) {
            c.due(x.status(what), 0);
        }
        // what a ROW held is not told once the SHELF holds something else
        x.show(1, 0);
        c.due(x.element(1, 0), 0);
        x.show(1, -1);
        c.due(x.element(1, 0), 0);
    }

    private static void promises6And7HoldsAndShow() {
        WhiteElephants x = new WhiteElephants();
        for (int t = 0; t < 30; t++) {
            x.thing(0, t, 0);
        }
        c.due(x.show(0, 0), 1);
        c.due(x.holds(0), 10);
        c.due(x.show(7, 29), 1);
        c.due(x.holds(7), 39);
        x.row(1, 3, 2);
        c.due(x.show(1, 4), 1);
        c.due(x.holds(1), 14);
        c.due(x.show(1, -1), 1);
        c.due(x.holds(1), -1);
        c.due(x.show(1, -1), 1);
        x.row(2, 4, 1);
        c.due(x.show(2, -1), 1);
        c.due(x.holds(2), -1);
        c.due(x.holds(-1), -1);
        c.due(x.holds(8), -1);
        c.due(x.status(12), 0);
        c.bad(x, () -> x.show(-1, 0));
        c.bad(x, () -> x.show(8, -1));
        c.bad(x, () -> x.show(0, 30));
        c.bad(x, () -> x.show(0, -2));
        c.due(x.holds(0), 10);
        WhiteElephants y = new WhiteElephants();
        c.bad(y, () -> y.show(0, 0));
    }
}
