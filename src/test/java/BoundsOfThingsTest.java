/** Promises 1 to 12, at the bounds that they and the Terms name: SHELVES, ROWS, THINGS. */
public final class BoundsOfThingsTest {
    private static final Check c = new Check();
    private static final int[] BITS = {8, 16, 32, 64};

    public static void main(String[] args) {
        promise1ObjectsShareNothing();
        promise2ShelvesSortsAndSizes();
        promise3LowestBits();
        promise3FirstAndLastElement();
        promise4WholeRowsAndNone();
        promise4AsTheyWere();
        promise5ElementAtTheEnds();
        promises6And7FirstAndLastThing();
        promise8SaysAtBounds();
        promise9ThirtyThings();
        promise10Worths();
        promise10Room();
        promise10NoneOfARow();
        promise11TrueWorthOfLeastAndMost();
        promise11ChinaByChips();
        promise11ClothAround200();
        promise12EachChip();
        c.end();
    }

    private static void promise1ObjectsShareNothing() {
        WhiteElephants x = new WhiteElephants();
        Scenes.full(x);
        Scenes untouched = new Scenes(c, y -> { });
        WhiteElephants z = new WhiteElephants();
        Scenes.some(z);
        untouched.dueOf(y -> { });
        c.due(x.status(0), 30);
        c.due(z.status(0), 5);
        for (int what = 12; what <= 16; what++) {
            c.due(new WhiteElephants().status(what), 0);
        }
    }

    private static void promise2ShelvesSortsAndSizes() {
        for (int s : new int[] {0, 7}) {
            for (int sort = 0; sort <= 4; sort++) {
                for (int n : new int[] {0, 1, 39, 40}) {
                    WhiteElephants x = new WhiteElephants();
                    c.due(x.row(s, sort, n), 1);
                    c.due(x.holds(s), sort);
                    c.due(x.status(8), 1);
                    c.bad(x, () -> x.set(s, n, 1));
                    if (n > 0) {
                        c.due(x.element(s, n - 1), 0);
                        c.due(x.set(s, n - 1, 1), 1);
                        c.due(x.element(s, n - 1), 1);
                    }
                }
            }
        }
        // a ROW over a full one of 40, of each SORT: nothing of it is left
        for (int sort = 0; sort <= 4; sort++) {
            WhiteElephants x = new WhiteElephants();
            x.row(3, sort, 40);
            for (int i = 0; i < 40; i++) {
                x.set(3, i, 1);
            }
            c.due(x.row(3, 4 - sort, 40), 1);
            for (int i = 0; i < 40; i++) {
                c.due(x.element(3, i), 0);
            }
        }
    }

    private static void put(WhiteElephants x, long v, long want) {
        c.due(x.set(0, 0, v), 1);
        c.due(x.element(0, 0), want);
    }

    private static void promise3LowestBits() {
        for (int sort = 0; sort <= 3; sort++) {
            WhiteElephants x = new WhiteElephants();
            x.row(0, sort, 1);
            long most = Long.MAX_VALUE >> 64 - BITS[sort];
            long least = -most - 1;
            put(x, least, least);
            put(x, most, most);
            put(x, least + 1, least + 1);
            put(x, most - 1, most - 1);
            // one more and one less go round
            put(x, most + 1, least);
            put(x, least - 1, most);
            put(x, -1, -1);
            put(x, 0, 0);
            put(x, 2 * most + 1, -1);
            put(x, 2 * most + 2, 0);
            put(x, 2 * most + 3, 1);
        }
        WhiteElephants x = new WhiteElephants();
        x.row(0, 4, 1);
        put(x, Long.MIN_VALUE, 1);
        put(x, 0, 0);
        put(x, Long.MAX_VALUE, 1);
        put(x, 0, 0);
        put(x, 1L << 32, 1);
        put(x, -2, 1);
        put(x, 1, 1);
    }

    private static void promise3FirstAndLastElement() {
        WhiteElephants x = new WhiteElephants();
        x.row(7, 3, 40);
        c.due(x.set(7, 0, 11), 1);
        c.due(x.set(7, 39, 12), 1);
        for (int i = 0; i < 40; i++) {
            c.due(x.element(7, i), i == 0 ? 11 : i == 39 ? 12 : 0);
        }
        c.bad(x, () -> x.set(7, 40, 1));
        x.row(0, 3, 1);
        c.due(x.set(0, 0, 5), 1);
        c.bad(x, () -> x.set(0, 1, 1));
    }

    private static void numbers(WhiteElephants x, int s, int sort, int n) {
        x.row(s, sort, n);
        for (int i = 0; i < n; i++) {
            x.set(s, i, i + 1);
        }
    }

    private static void promise4WholeRowsAndNone() {
        for (int sort = 0; sort <= 3; sort++) {
            WhiteElephants x = new WhiteElephants();
            numbers(x, 0, sort, 40);
            x.row(7, sort, 40);
            c.due(x.copy(0, 7, 0, 0, 40), 40);
            for (int i = 0; i < 40; i++) {
                c.due(x.element(7, i), i + 1);
                c.due(x.element(0, i), i + 1);
            }
            // the last on the first, the first on the last
            c.due(x.copy(0, 7, 39, 0, 1), 1);
            c.due(x.copy(0, 7, 0, 39, 1), 1);
            c.due(x.element(7, 0), 40);
            c.due(x.element(7, 39), 1);
            c.due(x.element(7, 1), 2);
            c.due(x.element(7, 38), 39);
            // none: nothing changes, at the beginning as at the end
            c.due(x.copy(7, 0, 0, 0, 0), 0);
            c.due(x.copy(7, 0, 40, 40, 0), 0);
            c.due(x.element(0, 0), 1);
            c.due(x.element(0, 39), 40);
            x.row(3, sort, 0);
            x.row(4, sort, 0);
            c.due(x.copy(3, 4, 0, 0, 0), 0);
            c.due(x.copy(3, 0, 0, 40, 0), 0);
            c.bad(x, () -> x.copy(3, 0, 0, 0, 1));
            c.bad(x, () -> x.copy(0, 3, 0, 0, 1));
        }
    }

    private static void promise4AsTheyWere() {
        WhiteElephants x = new WhiteElephants();
        numbers(x, 0, 2, 40);
        c.due(x.copy(0, 0, 0, 1, 39), 39);
        for (int i = 0; i < 40; i++) {
            c.due(x.element(0, i), Math.max(1, i));
        }
        numbers(x, 1, 2, 40);
        c.due(x.copy(1, 1, 1, 0, 39), 39);
        for (int i = 0; i < 40; i++) {
            c.due(x.element(1, i), Math.min(40, i + 2));
        }
        numbers(x, 2, 2, 40);
        c.due(x.copy(2, 2, 0, 0, 40), 40);
        for (int i = 0; i < 40; i++) {
            c.due(x.element(2, i), i + 1);
        }
    }

    private static void promise5ElementAtTheEnds() {
        WhiteElephants x = new WhiteElephants();
        numbers(x, 0, 3, 40);
        c.due(x.element(0, 0), 1);
        c.due(x.element(0, 39), 40);
        c.due(x.element(0, 40), 0);
        c.due(x.element(0, -1), 0);
        numbers(x, 0, 3, 39);
        c.due(x.element(0, 38), 39);
        c.due(x.element(0, 39), 0);
        x.row(0, 3, 0);
        c.due(x.element(0, 0), 0);
        numbers(x, 7, 3, 1);
        c.due(x.element(7, 0), 1);
        c.due(x.element(7, 1), 0);
        c.due(x.element(8, 0), 0);
        c.due(x.element(-1, 0), 0);
        c.due(x.status(12), 0);
    }

    private static void promises6And7FirstAndLastThing() {
        WhiteElephants x = new WhiteElephants();
        x.thing(0, 1, 0);
        c.due(x.show(0, 0), 1);
        c.due(x.holds(0), 10);
        c.bad(x, () -> x.show(0, 1));
        for (int t = 1; t < 30; t++) {
            x.thing(0, 1, 0);
        }
        for (int s = 0; s < 8; s++) {
            c.due(x.show(s, 29 - s), 1);
            c.due(x.holds(s), 39 - s);
            c.due(x.status(8), s + 1);
        }
        c.bad(x, () -> x.show(0, 30));
        for (int s = 0; s < 8; s++) {
            c.due(x.show(s, -1), 1);
            c.due(x.holds(s), -1);
            c.due(x.status(8), 7 - s);
        }
        // one THING on all SHELVES, and on one of them again
        for (int s = 0; s < 8; s++) {
            c.due(x.show(s, 7), 1);
        }
        c.due(x.show(7, 7), 1);
        c.due(x.holds(0), 17);
        c.due(x.holds(7), 17);
        c.due(x.status(8), 8);
    }

    private static void dueSays(int kind, int worth, int chips, int asKind, int want) {
        WhiteElephants x = new WhiteElephants();
        x.thing(kind, worth, chips);
        x.show(7, 0);
        c.due(x.says(7, asKind), want);
        c.due(x.status(13), want == -3 ? 1 : 0);
    }

    private static void promise8SaysAtBounds() {
        // each KIND by each: only itself and those above it can be told
        int[][] may = {{0}, {0, 1}, {0, 1, 2}, {0, 1, 2, 3}, {0, 4}, {0, 5}};
        for (int kind = 0; kind < 6; kind++) {
            for (int asKind = 0; asKind < 6; asKind++) {
                boolean can = java.util.Arrays.binarySearch(may[kind], asKind) >= 0;
                int[] want = {0, 8, 1, 0, 0, 0};
                dueSays(kind, 0, 255, asKind, can ? want[asKind] : -3);
            }
        }
        dueSays(1, 999, 0, 1, 0);
        dueSays(1, 999, 128, 1, 1);
        dueSays(3, 999, 255, 1, 8);
        dueSays(2, 999, 254, 2, 0);
        dueSays(2, 999, 1, 2, 1);
        dueSays(3, 999, 127, 3, 50);
        dueSays(3, 999, 128, 3, 0);
        dueSays(4, 199, 0, 4, 0);
        dueSays(4, 200, 0, 4, 0);
        dueSays(4, 201, 0, 4, 1);
        dueSays(4, 999, 0, 4, 799);
        dueSays(5, 999, 255, 5, 999);
        dueSays(5, 0, 0, 5, 0);
        dueSays(3, 999, 0, 0, 1049);
        // the THING on the SHELF is the THING itself: a CHIP that comes later is said
        WhiteElephants x = new WhiteElephants();
        x.thing(3, 100, 0);
        x.show(0, 0);
        x.chip(0, 7);
        c.due(x.says(0, 3), 0);
        c.due(x.says(0, 1), 1);
        x.chip(0, 0);
        c.due(x.says(0, 2), 1);
        c.due(x.says(0, 0), 40);
    }

    private static void promise9ThirtyThings() {
        WhiteElephants x = new WhiteElephants();
        for (int t = 0; t < 30; t++) {
            c.due(x.status(0), t);
            c.due(x.thing(t % 6, 999 - t, 255 - t), t);
        }
        c.refused(x, -6, () -> x.thing(0, 0, 0));
        c.bad(x, () -> x.thing(0, 0, 256));
        for (int t = 0; t < 30; t++) {
            c.due(x.thingOf(t, 0), t % 6);
            c.due(x.thingOf(t, 1), 999 - t);
            c.due(x.thingOf(t, 2), 255 - t);
            c.due(x.thingOf(t, 4), -1);
            c.due(x.thingOf(t, 5), -1);
            c.due(x.thingOf(t, 6), -1);
        }
        for (int kind = 0; kind < 6; kind++) {
            for (int worth : new int[] {0, 999}) {
                for (int chips : new int[] {0, 255}) {
                    WhiteElephants y = new WhiteElephants();
                    c.due(y.thing(kind, worth, chips), 0);
                    c.due(y.thingOf(0, 1), worth);
                    c.due(y.thingOf(0, 2), chips);
                }
            }
        }
    }

    private static void promise10Worths() {
        WhiteElephants x = new WhiteElephants();
        x.row(0, 2, 4);
        x.set(0, 1, 999);
        x.set(0, 2, 1000);
        c.due(x.things(0, 0, 1), 1);
        c.due(x.things(0, 5, 2), 2);
        c.due(x.things(0, 5, 3), 2);
        c.due(x.things(0, 5, 4), 2);
        c.due(x.status(0), 7);
        c.due(x.thingOf(2, 1), 999);
        x.set(0, 0, -1);
        c.due(x.things(0, 1, 4), 0);
        c.due(x.status(0), 7);
        // numbers whose lowest bits alone would be WORTHS
        x.row(1, 3, 2);
        for (long v : new long[] {1L << 32, 1L << 40, Long.MIN_VALUE, Long.MAX_VALUE, -1L << 32, 65536, 1000}) {
            x.set(1, 0, v);
            c.due(x.things(1, 0, 2), 0);
        }
        // a byte of 200 is told as -56
        x.row(2, 0, 1);
        x.set(2, 0, 200);
        c.due(x.things(2, 0, 1), 0);
        x.set(2, 0, 127);
        c.due(x.things(2, 0, 1), 1);
        c.due(x.thingOf(7, 1), 127);
        x.row(3, 1, 1);
        x.set(3, 0, 65536 + 999);
        c.due(x.things(3, 4, 1), 1);
        c.due(x.thingOf(8, 1), 999);
        c.due(x.status(12), 0);
        c.due(x.status(16), 0);
    }

    private static void promise10Room() {
        for (int ahead : new int[] {0, 1, 28, 29, 30}) {
            WhiteElephants x = new WhiteElephants();
            for (int t = 0; t < ahead; t++) {
                x.thing(0, 5, 255);
            }
            x.row(0, 1, 40);
            for (int i = 0; i < 40; i++) {
                x.set(0, i, i);
            }
            c.due(x.things(0, 3, 40), 30 - ahead);
            c.due(x.status(0), 30);
            c.due(x.status(16), 0);
            if (ahead < 30) {
                c.due(x.thingOf(29, 0), 3);
                c.due(x.thingOf(29, 1), 29 - ahead);
                c.due(x.thingOf(29, 2), 0);
                c.due(x.thingOf(29, 4), -1);
                c.due(x.thingOf(ahead, 1), 0);
            }
            c.due(x.things(0, 3, 1), 0);
            c.due(x.things(0, 3, 0), 0);
            c.bad(x, () -> x.things(0, 3, 41));
        }
        // exactly as many as there is room for, and one less
        WhiteElephants x = new WhiteElephants();
        x.row(0, 2, 40);
        c.due(x.things(0, 0, 29), 29);
        c.due(x.things(0, 0, 1), 1);
        c.due(x.status(0), 30);
        WhiteElephants y = new WhiteElephants();
        y.row(0, 2, 30);
        c.due(y.things(0, 0, 30), 30);
    }

    private static void promise10NoneOfARow() {
        WhiteElephants x = new WhiteElephants();
        x.row(0, 2, 0);
        c.due(x.things(0, 0, 0), 0);
        c.bad(x, () -> x.things(0, 0, 1));
        x.row(7, 4, 1);
        c.due(x.things(7, 5, 0), 0);
        c.due(x.things(7, 5, 1), 1);
        c.bad(x, () -> x.things(7, 5, 2));
        c.bad(x, () -> x.things(7, 5, -1));
        c.due(x.status(0), 1);
    }

    private static void dueTrue(int kind, int worth, int chips, int want) {
        WhiteElephants x = new WhiteElephants();
        x.thing(kind, worth, chips);
        c.due(x.thingOf(0, 3), want);
    }

    private static void promise11TrueWorthOfLeastAndMost() {
        int[] of0 = {0, 0, 0, 50, 0, 0};
        int[] of0Chipped = {0, 0, 0, 0, 0, 0};
        int[] of999 = {999, 999, 999, 1049, 200, 999};
        // 999 less 8 times 99 is 207, its half 103
        int[] of999Chipped = {999, 207, 103, 103, 200, 999};
        for (int kind = 0; kind < 6; kind++) {
            dueTrue(kind, 0, 0, of0[kind]);
            dueTrue(kind, 0, 255, of0Chipped[kind]);
            dueTrue(kind, 999, 0, of999[kind]);
            dueTrue(kind, 999, 255, of999Chipped[kind]);
        }
    }

    private static void promise11ChinaByChips() {
        // a tenth of 9 is 0, of 10 and 19 it is 1, of 20 it is 2
        dueTrue(1, 9, 2, 9);
        dueTrue(1, 10, 2, 9);
        dueTrue(1, 19, 2, 18);
        dueTrue(1, 20, 2, 18);
        int chips = 0;
        for (int chip = 0; chip < 8; chip++) {
            dueTrue(1, 105, chips, 105 - 10 * chip);
            chips |= 1 << chip;
        }
        dueTrue(1, 105, 255, 25);
        // CHIP 0 halves a VASE, others do not; halves are cut
        for (int chip = 0; chip < 8; chip++) {
            dueTrue(1, 101, 1 << chip, 91);
            dueTrue(2, 101, 1 << chip, chip == 0 ? 45 : 91);
            dueTrue(3, 101, 1 << chip, chip == 0 ? 95 : chip == 7 ? 91 : 141);
            dueTrue(4, 101, 1 << chip, 101);
        }
        dueTrue(2, 1, 1, 0);
        dueTrue(2, 2, 1, 1);
        dueTrue(2, 3, 1, 1);
        dueTrue(3, 1, 129, 0);
        dueTrue(3, 1, 1, 50);
    }

    private static void promise11ClothAround200() {
        dueTrue(4, 199, 0, 199);
        dueTrue(4, 200, 0, 200);
        dueTrue(4, 201, 0, 200);
        dueTrue(4, 1, 255, 1);
        dueTrue(0, 201, 0, 201);
        dueTrue(5, 201, 0, 201);
    }

    private static void promise12EachChip() {
        WhiteElephants x = new WhiteElephants();
        x.thing(1, 100, 0);
        x.thing(1, 100, 0);
        int chips = 0;
        for (int chip = 0; chip < 8; chip++) {
            chips |= 1 << chip;
            c.due(x.chip(0, chip), 1);
            c.due(x.thingOf(0, 2), chips);
            c.due(x.chip(0, chip), 0);
            c.due(x.thingOf(0, 2), chips);
        }
        c.due(x.thingOf(0, 3), 20);
        c.due(x.thingOf(1, 2), 0);
        c.bad(x, () -> x.chip(0, 8));
        c.bad(x, () -> x.chip(2, 0));
        // of a full one: none is new; of the last of thirty
        WhiteElephants y = new WhiteElephants();
        y.thing(0, 0, 255);
        for (int t = 1; t < 30; t++) {
            y.thing(0, 0, 0);
        }
        for (int chip = 0; chip < 8; chip++) {
            c.due(y.chip(0, chip), 0);
        }
        c.due(y.chip(29, 7), 1);
        c.due(y.thingOf(29, 2), 128);
        c.due(y.thingOf(28, 2), 0);
        c.due(y.status(12), 0);
    }
}
