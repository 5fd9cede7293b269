import java.util.Arrays;
import java.util.function.Consumer;
import java.util.function.ToIntFunction;

/**
 * Objects that are empty, in use, and full; all that can be asked of one; and the test that a refused call changes
 * nothing of it. No object is asked more than 512 times: what is told comes in parts, each from an object of its own.
 */
final class Scenes {
    private final Check c;
    private final Consumer<WhiteElephants> scene;
    private final long[][] told = new long[Told.PARTS][];

    Scenes(Check c, Consumer<WhiteElephants> scene) {
        this.c = c;
        this.scene = scene;
        for (int part = 0; part < Told.PARTS; part++) {
            told[part] = Told.part(make(), part);
        }
    }

    private WhiteElephants make() {
        WhiteElephants x = new WhiteElephants();
        scene.accept(x);
        return x;
    }

    /** The call answers the refusal, which is counted once, and all else is told as it was ahead of the call. */
    void no(int refusal, ToIntFunction<WhiteElephants> call) {
        for (int part = 0; part < Told.PARTS; part++) {
            WhiteElephants x = make();
            c.refused(x, refusal, () -> call.applyAsInt(x));
            c.same(Told.part(x, part), told[part], "refused, and yet it changes part " + part);
        }
    }

    void bad(ToIntFunction<WhiteElephants> call) {
        no(-2, call);
    }

    /** The call answers want, no refusal is counted, and all is told as it was ahead of the call. */
    void asks(long want, ToIntFunction<WhiteElephants> call) {
        for (int part = 0; part < Told.PARTS; part++) {
            WhiteElephants x = make();
            int[] before = Check.refusals(x);
            c.due(call.applyAsInt(x), want);
            c.due(Arrays.equals(Check.refusals(x), before) ? 1 : 0, 1);
            c.same(Told.part(x, part), told[part], "only asked, and yet it changes part " + part);
        }
    }

    /** An object that was made in another way tells all that one of this scene tells. */
    void dueOf(Consumer<WhiteElephants> otherWay) {
        for (int part = 0; part < Told.PARTS; part++) {
            duePart(part, otherWay);
        }
    }

    /** The same, but for whether an image is kept, and of what. */
    void dueButImage(Consumer<WhiteElephants> otherWay) {
        for (int part = 0; part < Told.PARTS - 1; part++) {
            duePart(part, otherWay);
        }
    }

    void duePart(int part, Consumer<WhiteElephants> otherWay) {
        WhiteElephants x = new WhiteElephants();
        otherWay.accept(x);
        c.same(Told.part(x, part), told[part], "another state in part " + part);
    }

    /**
     * THINGS: 0 PRICED, 1 UNPRICED, 2 SOLD, 3 PRICED, 4 UNPRICED; 2 LADIES, 1 LAW, 2 BUYERS, 2 TABLES, 3 SIGHTINGS,
     * 2 SECRETS; HOUR 2 is next. SHELVES: 0 a ROW of 4 ints, 1 of 3 longs, 3 of no bytes; 2 and 5 THINGS 0 and 4;
     * 4, 6 and 7 NOTHING. An image of another state is kept, THE TAPE is a LAW, and REFUSALS have been there.
     */
    static void some(WhiteElephants x) {
        x.thing(2, 300, 5);
        x.thing(4, 350, 0);
        x.thing(0, 120, 0);
        x.thing(5, 40, 255);
        x.lady(17, 60);
        x.lady(14, 30);
        Check.law(x, "known 80;round 5");
        x.goes(0, 0);
        x.mark(0, 100);
        x.mark(2, 20);
        x.mark(3, 45);
        x.buyer(0, 500, 1, 150);
        x.buyer(5, 90, 63, 120);
        x.turn(0, 7);
        x.turn(1, 10);
        x.table(14);
        x.table(49);
        x.sight(1, 0, 2, 3);
        x.sight(3, 1, 3, -1);
        x.sight(4, 1, -1, 5);
        x.secret(0, 1);
        x.secret(3, 2);
        x.looks(1, 3);
        x.looks(2, 4);
        x.go(2);
        x.image();
        x.thing(3, 77, 128);
        x.chip(0, 4);
        x.row(0, 2, 4);
        x.row(1, 3, 3);
        x.show(2, 0);
        x.row(3, 0, 0);
        x.show(5, 4);
        for (int i = 0; i < 3; i++) {
            x.set(0, i, 100 + i);
            x.set(1, i, 200 + i);
        }
        x.thing(9, 0, 0);
        x.set(2, 0, 0);
        x.set(4, 0, 0);
        x.mark(2, 0);
        Check.feed(x, " most 700");
    }

    /**
     * As many of all as may be, but 5 LAWS: 30 THINGS (SOLD, PRICED and, from 26 on, UNPRICED), 5 LADIES, 12 BUYERS,
     * 5 TABLES, 20 SIGHTINGS, 10 SECRETS; HOUR 1 is next. No image is kept; THE TAPE and the SHELVES are as they were.
     */
    static void filled(WhiteElephants x) {
        for (int lady = 0; lady < 5; lady++) {
            x.lady(1 << lady | 32, 100 * lady);
        }
        for (int t = 0; t < 30; t++) {
            if (t == 26) {
                x.price(4, 63);
            }
            x.thing(t % 6, 60 + 31 * t, 37 * t & 255);
        }
        for (int b = 0; b < 12; b++) {
            x.buyer(b % 3, 900 + 800 * b, b == 11 ? 0 : 33, 200 + b);
        }
        for (int i = 0; i < 20; i++) {
            x.sight(5 * i % 99, i & 6, i % 7 - 1, i % 5 - 1);
        }
        for (int i = 0; i < 10; i++) {
            x.secret(29 - i, i + 6);
        }
        for (int person = 0; person < 16; person++) {
            x.looks(person, 1 << person % 5);
        }
        for (int i = 0; i < 5; i++) {
            x.table(1 << i | 1);
            x.goes(i, lawOfMost(x, 200 + i));
        }
        x.turn(0, 5);
        x.turn(1, 9);
        x.go(1);
    }

    /**
     * As many of all as may be: filled, an image of that, then a LAW more, THE DAY is over, 120 bytes on THE TAPE,
     * SHELVES 0 to 6 with ROWS of 40, SHELF 7 with THING 29. After back(), what is on THE TAPE becomes the last LAW.
     */
    static void full(WhiteElephants x) {
        filled(x);
        x.image();
        lawOfMost(x, 206);
        x.go(12);
        for (int s = 0; s < 7; s++) {
            x.row(s, s % 5, 40);
            x.set(s, 39, s + 1);
        }
        x.show(7, 29);
        x.feed(0x6d6f7374, 4);
        for (int i = 0; i < 28; i++) {
            x.feed(0x20202020, 4);
        }
        x.feed(0x20313233, 4);
    }

    /** "most" and three digits. */
    private static int lawOfMost(WhiteElephants x, int most) {
        x.feed(0x6d6f7374, 4);
        x.feed(0x303030 + (most / 100 << 16) + (most / 10 % 10 << 8) + most % 10, 3);
        return x.law();
    }

    /** One LADY, two TABLES. */
    static void twoTables(WhiteElephants x) {
        x.thing(1, 90, 0);
        x.lady(0, 10);
        x.table(2);
        x.table(4);
    }

    /** THING 0 can be LAID nowhere; THING 1 has no SECRET. */
    static void unlayable(WhiteElephants x) {
        x.thing(1, 90, 0);
        x.thing(1, 80, 0);
        x.secret(0, 3);
        x.secret(0, 4);
        x.looks(3, 21);
        x.looks(4, 10);
    }
}
