/** Promises 8 to 12: THINGS, what they say and are worth. */
public final class ThingsTest {
    private static final Check c = new Check();

    public static void main(String[] args) {
        promise8Says();
        promise8SaysRefuses();
        promise9Thing();
        promise10Things();
        promise10ThingsRefuses();
        promise11ThingOf();
        promise11TrueWorth();
        promise12Chip();
        c.end();
    }

    private static void dueSays(int kind, int worth, int chips, int... want) {
        WhiteElephants x = new WhiteElephants();
        x.thing(kind, worth, chips);
        x.show(3, 0);
        for (int asKind = 0; asKind < 6; asKind++) {
            c.due(x.says(3, asKind), want[asKind]);
        }
    }

    private static void promise8Says() {
        // by KIND of the THING: what it says as THING, CHINA, VASE, LIDDED, CLOTH, BOOK
        dueSays(0, 120, 3, 120, -3, -3, -3, -3, -3);
        dueSays(1, 90, 2, 81, 1, -3, -3, -3, -3);
        dueSays(2, 300, 5, 120, 2, 1, -3, -3, -3);
        dueSays(2, 300, 4, 270, 1, 0, -3, -3, -3);
        dueSays(3, 200, 128, 180, 1, 0, 0, -3, -3);
        dueSays(3, 200, 1, 140, 1, 1, 50, -3, -3);
        dueSays(4, 350, 0, 200, -3, -3, -3, 150, -3);
        dueSays(4, 200, 0, 200, -3, -3, -3, 0, -3);
        dueSays(4, 150, 0, 150, -3, -3, -3, 0, -3);
        dueSays(5, 40, 255, 40, -3, -3, -3, -3, 40);
    }

    private static void promise8SaysRefuses() {
        WhiteElephants x = new WhiteElephants();
        x.thing(1, 10, 0);
        x.show(0, 0);
        x.row(1, 0, 4);
        c.bad(x, () -> x.says(-1, 0));
        c.bad(x, () -> x.says(8, 0));
        c.bad(x, () -> x.says(0, -1));
        c.bad(x, () -> x.says(0, 6));
        c.bad(x, () -> x.says(1, 6));
        c.bad(x, () -> x.says(2, 6));
        c.refused(x, -3, () -> x.says(1, 0));
        c.refused(x, -3, () -> x.says(0, 2));
        c.refused(x, -3, () -> x.says(0, 4));
        c.refused(x, -4, () -> x.says(2, 0));
    }

    private static void promise9Thing() {
        WhiteElephants x = new WhiteElephants();
        c.bad(x, () -> x.thing(-1, 0, 0));
        c.bad(x, () -> x.thing(6, 0, 0));
        c.bad(x, () -> x.thing(0, -1, 0));
        c.bad(x, () -> x.thing(0, 1000, 0));
        c.bad(x, () -> x.thing(0, 0, -1));
        c.bad(x, () -> x.thing(0, 0, 256));
        c.due(x.status(0), 0);
        c.due(x.thing(0, 0, 0), 0);
        c.due(x.thing(5, 999, 255), 1);
        for (int t = 2; t < 30; t++) {
            c.due(x.thing(t % 6, t, t), t);
        }
        c.due(x.status(0), 30);
        c.bad(x, () -> x.thing(6, 0, 0));
        c.refused(x, -6, () -> x.thing(0, 0, 0));
        c.due(x.status(0), 30);
    }

    private static void promise10Things() {
        WhiteElephants x = new WhiteElephants();
        x.row(0, 3, 4);
        x.set(0, 0, 999);
        x.set(0, 1, 0);
        x.set(0, 2, 7);
        x.set(0, 3, 8);
        c.due(x.things(0, 2, 3), 3);
        c.due(x.status(0), 3);
        c.due(x.thingOf(0, 0), 2);
        c.due(x.thingOf(0, 1), 999);
        c.due(x.thingOf(0, 2), 0);
        c.due(x.thingOf(1, 1), 0);
        c.due(x.thingOf(2, 1), 7);
        c.due(x.things(0, 2, 0), 0);
        x.set(0, 1, 1000);
        c.due(x.things(0, 5, 4), 1);
        x.set(0, 0, -1);
        c.due(x.things(0, 5, 4), 0);
        // a WORTH is looked at whole: its lowest bits alone would do here
        x.set(0, 0, (1L << 32) + 5);
        c.due(x.things(0, 5, 4), 0);
        c.due(x.status(0), 4);
        c.due(x.status(12), 0);
        x.row(1, 4, 2);
        x.set(1, 0, 77);
        c.due(x.things(1, 0, 2), 2);
        c.due(x.thingOf(4, 1), 1);
        c.due(x.thingOf(5, 1), 0);
        x.row(2, 2, 40);
        c.due(x.things(2, 1, 40), 24);
        c.due(x.status(0), 30);
        c.due(x.things(2, 1, 40), 0);
        c.due(x.status(16), 0);
    }

    private static void promise10ThingsRefuses() {
        WhiteElephants x = new WhiteElephants();
        x.thing(0, 1, 0);
        x.show(0, 0);
        x.row(1, 2, 3);
        c.bad(x, () -> x.things(-1, 0, 1));
        c.bad(x, () -> x.things(8, 0, 1));
        c.bad(x, () -> x.things(0, -1, 1));
        c.bad(x, () -> x.things(2, 6, 1));
        c.refused(x, -3, () -> x.things(0, 0, -1));
        c.refused(x, -4, () -> x.things(2, 0, -1));
        c.bad(x, () -> x.things(1, 0, -1));
        c.bad(x, () -> x.things(1, 0, 4));
        c.due(x.status(0), 1);
    }

    private static void promise11ThingOf() {
        WhiteElephants x = new WhiteElephants();
        x.thing(3, 200, 129);
        x.thing(0, 9, 255);
        c.due(x.thingOf(0, 0), 3);
        c.due(x.thingOf(0, 1), 200);
        c.due(x.thingOf(0, 2), 129);
        c.due(x.thingOf(0, 3), 80);
        c.due(x.thingOf(0, 4), -1);
        c.due(x.thingOf(0, 5), -1);
        c.due(x.thingOf(0, 6), -1);
        c.due(x.thingOf(1, 2), 255);
        x.mark(0, 60);
        x.buyer(0, 10, 8, 100);
        x.buyer(0, 100, 8, 100);
        x.turn(0, 0);
        c.due(x.go(1), 30);
        c.due(x.thingOf(0, 4), 60);
        c.due(x.thingOf(0, 5), 1);
        c.due(x.thingOf(0, 6), 30);
        c.due(x.status(12), 0);
        c.bad(x, () -> x.thingOf(-1, 0));
        c.bad(x, () -> x.thingOf(2, 0));
        c.bad(x, () -> x.thingOf(0, -1));
        c.bad(x, () -> x.thingOf(0, 7));
    }

    private static void dueTrue(int kind, int worth, int chips, int want) {
        WhiteElephants x = new WhiteElephants();
        x.thing(kind, worth, chips);
        c.due(x.thingOf(0, 3), want);
    }

    private static void promise11TrueWorth() {
        dueTrue(0, 999, 255, 999);
        dueTrue(5, 999, 255, 999);
        dueTrue(4, 999, 255, 200);
        dueTrue(4, 201, 0, 200);
        dueTrue(4, 199, 1, 199);
        dueTrue(1, 999, 255, 999 - 8 * 99);
        // a tenth is cut before it is taken once for each CHIP
        dueTrue(1, 99, 7, 99 - 3 * 9);
        dueTrue(1, 9, 255, 9);
        dueTrue(1, 10, 255, 2);
        dueTrue(1, 90, 1, 81);
        dueTrue(2, 90, 1, 40);
        dueTrue(2, 90, 2, 81);
        dueTrue(2, 300, 128, 270);
        dueTrue(3, 90, 1, 90);
        dueTrue(3, 90, 129, 36);
        dueTrue(3, 90, 128, 81);
        dueTrue(3, 999, 0, 1049);
        dueTrue(3, 0, 0, 50);
        dueTrue(3, 0, 255, 0);
    }

    private static void promise12Chip() {
        WhiteElephants x = new WhiteElephants();
        x.thing(2, 100, 0);
        x.thing(5, 100, 0);
        c.due(x.chip(0, 7), 1);
        c.due(x.thingOf(0, 3), 90);
        c.due(x.chip(0, 7), 0);
        c.due(x.chip(0, 0), 1);
        c.due(x.thingOf(0, 2), 129);
        c.due(x.thingOf(0, 3), 40);
        c.due(x.chip(1, 3), 1);
        c.due(x.thingOf(1, 2), 8);
        c.due(x.thingOf(1, 3), 100);
        c.bad(x, () -> x.chip(-1, 0));
        c.bad(x, () -> x.chip(2, 0));
        c.bad(x, () -> x.chip(0, -1));
        c.bad(x, () -> x.chip(0, 8));
        c.due(x.thingOf(0, 2), 129);
        // what a SHELF's THING says is what it is now
        x.show(5, 0);
        c.due(x.says(5, 0), 40);
        c.due(x.says(5, 1), 2);
        x.chip(0, 6);
        c.due(x.says(5, 0), 35);
        c.due(x.says(5, 1), 3);
        // the PRICE stays when a CHIP comes, and a THING that is SOLD can get one
        x.mark(0, 10);
        x.buyer(0, 50, 63, 100);
        x.go(1);
        c.due(x.chip(0, 1), 1);
        c.due(x.thingOf(0, 4), 10);
        c.due(x.thingOf(0, 3), 30);
    }
}
