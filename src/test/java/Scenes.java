import java.util.Arrays;
import java.util.function.Consumer;
import java.util.function.ToIntFunction;

/**
 * Objects that are empty, in use, and full; all that can be asked of one; and the test that a refused call changes
 * nothing of it. No object is asked more than 512 times: what is told comes in parts, each from an object of its own.
 */
final class Scenes {
    private final Check c;
    private final Consumer<WhiteElephants> scene;
    private final long[][] told = new long[Told.PARTS][];

    Scenes(Check c, Consumer<WhiteElephants> scene) {
        this.c = c;
        this.scene = scene;
        for (int part = 0; part < Told.PARTS; part++) {
            told[part] = Told.part(make(), part);
        }
    }

    private WhiteElephants make() {
        WhiteElephants x = new WhiteElephants();
        scene.accept(x);
        return x;
    }

    /** The call answers the refusal, which is counted once, and all else is told as it was ahead of the call. */
    void no(int refusal, ToIntFunction<WhiteElephants> call) {
        for (int part = 0; part < Told.PARTS; part++) {
            WhiteElephants x = make();
            c.refused(x, refusal, () -> call.applyAsInt(x));
            c.same(Told.part(x, part), told[part], "refused, and yet it changes part " + part);
        }
    }

    void bad(ToIntFunction<WhiteElephants> call) {
        no(-2, call);
    }

    /** The call answers want, no refusal is counted, and all is told as it was ahead of the call. */
    void asks(long want, ToIntFunction<WhiteElephants> call) {
        for (int part = 0; part < Told.PARTS; part++) {
            WhiteElephants x = make();
            int[] before = Check.refusals(x);
            c.due(call.applyAsInt(x), want);
            c.due(Arrays.equals(Check.refusals(x), before) ? 1 : 0, 1);
            c.same(Told.part(x, part), told[part], "only asked, and yet it changes part " + part);
        }
    }

    /** An object that was made in another way tells all that one of this scene tells. */
    void dueOf(Consumer<WhiteElephants> otherWay) {
        for (int part = 0; part < Told.PARTS; part++) {
            duePart(part, otherWay);
        }
    }

    /** The same, but for whether an image is kept, and of what. */
    void dueButImage(Consumer<WhiteElephants> otherWay) {
        for (int part = 0; part < Told.PARTS - 1; part++) {
            duePart(part, otherWay);
        }
    }

    void duePart(int part, Consumer<WhiteElephants> otherWay) {
        WhiteElephants x = new WhiteElephants();
        otherWay.accept(x);
        c.same(Told.part(x, part), told[part], "another state in part " + part);
    }

    /**
     * THINGS: 0 PRICED, 1 UNPRICED, 2 SOLD, 3 PRICED, 4 UNPRICED; 2 LADIES, 1 LAW, 2 BUYERS, 2 TABLES, 3 SIGHTINGS,
     * 2 SECRETS; HOUR 2 is next. SHELVES: 0 a ROW of 4 ints, 1 of 3 longs, 3 of no bytes; 2 and 5 THINGS 0 and 4;
     * 4, 6 and 7 NOTHING. An image of another state is kept, THE TAPE is a LAW, and REFUSALS have been there.
     */
    static void some(WhiteElephants x) {
        x.thing(2, 300, 5);
        x.thing(4, 350, 0);
        x.thing(0, 120, 0);
        x.thing(5, 40, 255);
        x.lady(17, 60);
        x.lady(14, 30);
        Check.law(x, "known 80;round 5");
        x.goes(0, 0);
        x.mark(0, 100);
        x.mark(2, 20);
        x.mark(3, 45);
        x.buyer(0, 500, 1, 150);
        x.buyer(5, 90, 63, 120);
        x.turn(0, 7);
        x.turn(1, 10);
        x.table(14);
        x.table(49);
        x.sight(1, 0, 2, 3);
        x.sight(3, 1, 3, -1);
        x.sight(4, 1, -1, 5);
        x.secret(0, 1);
        x.secret(3, 2);
        x.looks(1, 3);
        x.looks(2, 4);
        x.go(2);
        x.image();
        x.thing(3, 77, 128);
        x.chip(0, 4);
        x.row(0, 2, 4);
        x.row(1, 3, 3);
        x.show(2, 0);
        x.row(3, 0, 0);
        x.show(5, 4);
        for (int i = 0; i < 3; i++) {
            x.set(0, i, 100 + i);
            x.set(1, i, 200 + i);
        }
        x.thing(9, 0, 0);
        x.set(2, 0, 0);
        x.set(4, 0, 0);
        x.mark(2, 0);
        Check.feed(x, " most 700");
    }

    /**
     * As many of all as may be, but 5 LAWS: 30 THINGS (SOLD, PRICED and, from 26 on, UNPRICED), 5 LADIES, 12 BUYERS,
     * 5 TABLES, 20 SIGHTINGS, 10 SECRETS; HOUR 1 is next. No image is kept; THE TAPE and the SHELVES are as they were.
     */
    static void filled(WhiteElephants x) {
        for (int lady = 0; lady < 5; lady++) {
            x.lady(1 << lady | 32, 100 * lady);
        }
        for (int t = 0; t < 30; t++) {
            if (t == 26) {
                x.price(4, 63);
            }
            x.thing(t % 6, 60 + 31 * t, 37 * t & 255);
        }
        for (int b = 0; b < 12; b++) {
            x.buyer(b % 3, 900 + 800 * b, b == 11 ? 0 : 33, 200 + b);
        }
        for (int i = 0; i < 20; i++) {
            x.sight(5 * i % 99, i & 6, i % 7 - 1, i % 5 - 1);
        }
        for (int i = 0; i < 10; i++) {
            x.secret(29 - i, i + 6);
        }
        for (int person = 0; person < 16; person++) {
            x.looks(person, 1 << person % 5);
        }
        for (int i = 0; i < 5; i++) {
            x.table(1 << i | 1);
            x.goes(i, lawOfMost(x, 200 + i));
        }
        x.turn(0, 5);
        x.turn(1, 9);
        x.go(1);
    }

    /**
     * As many of all as may be: filled, an image of that, then a LAW more, THE DAY is over, 120 bytes on THE TAPE,
     * SHELVES 0 to 6 with ROWS of 40, SHELF 7 with THING 29. After back(), what is on THE TAPE becomes the last LAW.
     */
    static void full(WhiteElephants x) {
        filled(x);
        x.image();
        lawOfMost(x, 206);
        x.go(12);
        for (int s = 0; s < 7; s++) {
            x.row(s, s % 5, 40);
            x.set(s, 39, s + 1);
        }
        x.show(7, 29);
        x.feed(0x6d6f7374, 4);
        for (int i = 0; i < 28; i++) {
            x.feed(0x20202020, 4);
        }
        x.feed(0x20313233, 4);
    }

    /** "most" and three digits. */
    private static int lawOfMost(WhiteElephants x, int most) {
        x.feed(0x6d6f7374, 4);
        x.feed(0x303030 + (most / 100 << 16) + (most / 10 % 10 << 8) + most % 10, 3);
        return x.law();
    }

    /** Some of all, so chosen that whatever changes can be told: richHall, an image of that, richMore, richRound. */
    static void rich(WhiteElephants x) {
        richHall(x);
        x.image();
        richMore(x);
        richRound(x);
    }

    /** The same without an image. */
    static void richUnkept(WhiteElephants x) {
        richHall(x);
        richMore(x);
        richRound(x);
    }

    /**
     * THINGS 0 to 9, of which 1 and 5 are SOLD, 6 and 8 UNPRICED; 2 LADIES, 2 LAWS, 3 BUYERS, 2 TABLES, 5 SIGHTINGS,
     * 3 SECRETS; each person LOOKS at some TABLES; HOUR 1 is next.
     */
    static void richHall(WhiteElephants x) {
        int[] kinds = {0, 2, 3, 4, 5, 1, 2, 5, 4, 0};
        for (int t = 0; t < kinds.length; t++) {
            x.thing(kinds[t], 990 - 70 * t, t == 2 ? 129 : 3 * t);
        }
        x.lady(20, 300);
        x.lady(3, 111);
        feed(x, "known 70; strange 200");
        x.law();
        feed(x, "strange 199;most 900");
        x.law();
        x.goes(0, 0);
        x.goes(1, 1);
        int[] prices = {940, 300, 260, 150, 600, 410, -1, 450, -1, 500};
        for (int t = 0; t < prices.length; t++) {
            x.mark(t, prices[t]);
        }
        x.buyer(0, 2000, 6, 120);
        x.buyer(0, 990, 2, 110);
        x.buyer(4, 3000, 49, 105);
        x.table(7);
        x.table(48);
        x.sight(3, 1, 2, 5);
        x.sight(9, 3, 5, 4);
        x.sight(9, 1, -1, 5);
        x.sight(14, 67, 4, -1);
        x.sight(30, 75, 7, 5);
        x.secret(2, 3);
        x.secret(5, 0);
        x.secret(3, 4);
        for (int person = 0; person < 16; person++) {
            x.looks(person, 1 << person % 5);
        }
        x.turn(0, 9);
        x.turn(1, 11);
        x.go(1);
    }

    /** THINGS 10 and 11; THING 8 is PRICED, 10 SOLD, 11 PRICED; one more of all else; HOUR 3 is next. */
    static void richMore(WhiteElephants x) {
        x.thing(2, 800, 6);
        x.thing(3, 400, 2);
        x.chip(0, 2);
        x.chip(2, 4);
        x.mark(8, 130);
        x.mark(10, 200);
        x.mark(11, 211);
        x.lady(8, 222);
        feed(x, "most 800;known 30;strange 150");
        x.law();
        x.goes(0, 2);
        x.buyer(2, 500, 8, 90);
        x.table(2);
        x.sight(44, 79, 5, 1);
        x.secret(11, 7);
        x.looks(9, 30);
        x.turn(0, 7);
        x.turn(1, 10);
        x.go(2);
    }

    /**
     * SHELVES 0, 1, 3, 4 and 7 hold ROWS of 5, SHELF 6 the TAKINGS of rich HOUR by HOUR, SHELVES 2 and 5 THINGS 2 and 7;
     * THE TAPE is a LAW; of each refusal there were some.
     */
    static void richRound(WhiteElephants x) {
        int[] sorts = {2, 3, -1, 0, 4, -1, -1, 1};
        for (int s = 0; s < sorts.length; s++) {
            if (sorts[s] >= 0) {
                x.row(s, sorts[s], 5);
                x.set(s, 0, 300 + s);
                x.set(s, 4, 90 + s);
            }
        }
        x.show(2, 2);
        x.show(5, 7);
        int[] takings = {0, 0, 260, 0, 600, 940, 130, 225, 75, 250, 0, 0};
        x.row(6, 2, takings.length);
        for (int hour = 0; hour < takings.length; hour++) {
            x.set(6, hour, takings[hour]);
        }
        for (int i = 0; i < 2; i++) {
            x.thing(9, 0, 0);
            x.set(2, 0, 0);
            x.mark(1, 0);
        }
        x.show(1, -1);
        x.set(1, 0, 0);
        x.row(1, 3, 5);
        x.set(1, 0, 500);
        x.set(1, 4, 700);
        for (int i = 0; i < 30; i++) {
            x.feed(0x20202020, 4);
        }
        x.feed(32, 1);
        x.wipe();
        feed(x, "known 51;most 761");
    }

    /** Feeds a text to THE TAPE, four bytes a call. */
    static void feed(WhiteElephants x, String text) {
        for (int i = 0; i < text.length(); i += 4) {
            int n = Math.min(4, text.length() - i);
            int bytes = 0;
            for (int j = 0; j < n; j++) {
                bytes = bytes << 8 | text.charAt(i + j);
            }
            x.feed(bytes, n);
        }
    }

    /** One LADY, two TABLES. */
    static void twoTables(WhiteElephants x) {
        x.thing(1, 90, 0);
        x.lady(0, 10);
        x.table(2);
        x.table(4);
    }

    /** THING 0 can be LAID nowhere; THING 1 has no SECRET. */
    static void unlayable(WhiteElephants x) {
        x.thing(1, 90, 0);
        x.thing(1, 80, 0);
        x.secret(0, 3);
        x.secret(0, 4);
        x.looks(3, 21);
        x.looks(4, 10);
    }
}
