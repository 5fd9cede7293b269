/** Promises 35 to 46, at the bounds that they and the Terms name: SHOWN, WHO, VASES, LAID, SHORT, HALLS. */
public final class BoundsOfChoicesTest {
    private static final Check c = new Check();

    public static void main(String[] args) {
        promise35MinutesOfEachKind();
        promise35Gain();
        promise35EmptyAndFull();
        promise35LeastAsBits();
        promise36FiveTables();
        promise37EmptyAndFull();
        promise37AsManyTablesAsLadies();
        promise37FirstOfSeveral();
        promise38TwentySightings();
        promise39Years();
        promise39Chips();
        promise39Persons();
        promises40And41EmptyAndFull();
        promises40And41YearsAtTheEnds();
        promise40WithTwenty();
        promise42TenSecrets();
        promise43EachPersonAndTable();
        promise44RoomOfEachSize();
        promise44EachTable();
        promise44SixteenPersons();
        promise44LastThing();
        promise45LeastAndMost();
        promise45FewestThenLeastAsBits();
        promise45EmptyAndFull();
        promise46EmptyOneAndFull();
        promise46EachFirst();
        promise46Likes();
        c.end();
    }

    private static int bargain(WhiteElephants x, int kind, int gain) {
        int t = x.thing(kind, 100, 128);
        x.mark(t, x.thingOf(t, 3) - gain);
        return t;
    }

    private static void promise35MinutesOfEachKind() {
        for (int kind = 0; kind < 6; kind++) {
            WhiteElephants x = new WhiteElephants();
            bargain(x, kind, 1);
            for (int minutes = 0; minutes <= 12; minutes++) {
                c.due(x.shown(minutes), minutes >= 2 + kind ? 1 : 0);
            }
            // two of them take twice as many
            bargain(x, kind, 1);
            c.due(x.shown(3 + 2 * kind), 1);
            c.due(x.shown(4 + 2 * kind), 3);
        }
    }

    private static void promise35Gain() {
        WhiteElephants x = new WhiteElephants();
        bargain(x, 0, 0);
        bargain(x, 0, -1);
        c.due(x.shown(200), 0);
        bargain(x, 0, 1);
        c.due(x.shown(2), 4);
        c.due(x.shown(200), 4);
        // PRICED at 0 it gains all its TRUE worth; UNPRICED it is not there
        x.thing(5, 999, 0);
        c.due(x.shown(200), 4);
        x.mark(3, 0);
        c.due(x.shown(7), 8);
        c.due(x.shown(8), 8);
        c.due(x.shown(9), 12);
        x.mark(3, 999);
        c.due(x.shown(200), 4);
        x.mark(3, 998);
        c.due(x.shown(200), 12);
        // TRUE worth, not WORTH: CLOTH of 999 is worth 200
        WhiteElephants y = new WhiteElephants();
        y.thing(4, 999, 0);
        y.mark(0, 200);
        c.due(y.shown(200), 0);
        y.mark(0, 199);
        c.due(y.shown(200), 1);
        // SOLD it is not there
        y.buyer(0, 199, 16, 100);
        y.go(1);
        c.due(y.shown(200), 0);
    }

    private static void promise35EmptyAndFull() {
        WhiteElephants x = new WhiteElephants();
        c.due(x.shown(0), 0);
        c.due(x.shown(200), 0);
        c.bad(x, () -> x.shown(-1));
        c.bad(x, () -> x.shown(201));
        for (int t = 0; t < 30; t++) {
            x.thing(0, 999, 0);
            x.mark(t, 0);
        }
        for (int minutes = 0; minutes <= 200; minutes++) {
            c.due(x.shown(minutes), (1 << Math.min(30, minutes / 2)) - 1);
        }
        WhiteElephants y = new WhiteElephants();
        for (int t = 0; t < 30; t++) {
            bargain(y, 4, 1);
        }
        // 33 of 6 minutes could be shown in 200, and there are 30: 180 minutes
        c.due(y.shown(180), (1 << 30) - 1);
        c.due(y.shown(179), (1 << 29) - 1);
        c.due(y.shown(200), (1 << 30) - 1);
        WhiteElephants z = new WhiteElephants();
        for (int t = 0; t < 30; t++) {
            bargain(z, 5, t == 0 ? 1 : 2);
        }
        // 28 of 7 minutes: 196; the one of 1 is left out, and the last one
        c.due(z.shown(195), (1 << 28) - 2);
        c.due(z.shown(196), (1 << 29) - 2);
        c.due(z.shown(200), (1 << 29) - 2);
    }

    private static void promise35LeastAsBits() {
        // the last alone gains as much as the two ahead of it, in as many minutes
        WhiteElephants x = new WhiteElephants();
        bargain(x, 0, 5);
        bargain(x, 0, 5);
        bargain(x, 2, 10);
        c.due(x.shown(4), 3);
        c.due(x.shown(5), 3);
        c.due(x.shown(6), 5);
        // the first alone, or the two behind it
        WhiteElephants y = new WhiteElephants();
        bargain(y, 2, 10);
        bargain(y, 0, 5);
        bargain(y, 0, 5);
        c.due(y.shown(4), 1);
        c.due(y.shown(6), 3);
        // fewer minutes are no reason: the least as bits takes more of them
        WhiteElephants z = new WhiteElephants();
        bargain(z, 5, 5);
        bargain(z, 0, 5);
        c.due(z.shown(2), 2);
        c.due(z.shown(6), 2);
        c.due(z.shown(7), 1);
        c.due(z.shown(8), 1);
        c.due(z.shown(9), 3);
    }

    private static void promise36FiveTables() {
        WhiteElephants x = new WhiteElephants();
        for (int table = 0; table < 5; table++) {
            c.due(x.status(4), table);
            c.bad(x, () -> x.table(64));
            c.bad(x, () -> x.table(-1));
            c.due(x.table(table % 2 == 0 ? 0 : 63), table);
        }
        c.refused(x, -6, () -> x.table(0));
        c.refused(x, -6, () -> x.table(63));
        c.bad(x, () -> x.table(64));
        c.due(x.status(4), 5);
    }

    private static void promise37EmptyAndFull() {
        WhiteElephants x = new WhiteElephants();
        c.due(x.who(-1), 0);
        c.bad(x, () -> x.who(0));
        for (int lady = 0; lady < 5; lady++) {
            x.lady(0, 0);
        }
        c.due(x.who(-1), 0);
        for (int t = 0; t < 30; t++) {
            x.thing(3, 999, 0);
        }
        // no TABLE: nothing is LOST; each TABLE of all KINDS: all at each
        c.due(x.who(-1), 0);
        for (int table = 1; table <= 5; table++) {
            x.table(63);
            c.due(x.who(-1), table * 30 * 1049);
            for (int i = 0; i < table; i++) {
                c.due(x.who(i), i);
            }
            int next = table;
            c.bad(x, () -> x.who(next));
        }
        c.bad(x, () -> x.who(-2));
    }

    private static void promise37AsManyTablesAsLadies() {
        for (int n = 1; n <= 5; n++) {
            WhiteElephants x = new WhiteElephants();
            x.thing(0, 10, 0);
            for (int i = 0; i < n; i++) {
                x.table(1);
            }
            for (int lady = 0; lady < n; lady++) {
                c.refused(x, -5, () -> x.who(-1));
                c.refused(x, -5, () -> x.who(0));
                c.bad(x, () -> x.who(5));
                x.lady(0, 2 * (lady + 1));
            }
            // each lady has a TABLE, whatever she loses: 9, 8, 7 ..; all ways lose the same
            int sum = 0;
            for (int i = 0; i < n; i++) {
                c.due(x.who(i), i);
                sum += 9 - i;
            }
            c.due(x.who(-1), sum);
            // one more lady than TABLES: the one who loses most is left out, the others come in their order
            if (n < 5) {
                x.lady(0, 20);
                c.due(x.who(-1), sum - 9);
                c.due(x.who(0), 1);
                c.due(x.who(n - 1), n);
            }
        }
    }

    private static void promise37FirstOfSeveral() {
        // LADIES 1 and 3 lose nothing at either TABLE, 0, 2 and 4 lose all at both
        WhiteElephants x = new WhiteElephants();
        x.thing(1, 10, 0);
        x.thing(2, 10, 0);
        for (int lady = 0; lady < 5; lady++) {
            x.lady(lady % 2 == 1 ? 6 : 0, 0);
        }
        x.table(2);
        x.table(4);
        c.due(x.who(-1), 0);
        c.due(x.who(0), 1);
        c.due(x.who(1), 3);
        // a TABLE 0 where all lose the same, and a TABLE 1 where lady 0 alone loses nothing
        WhiteElephants y = new WhiteElephants();
        y.thing(5, 10, 0);
        y.lady(32, 0);
        y.lady(0, 0);
        y.lady(0, 0);
        y.table(0);
        y.table(32);
        c.due(y.who(-1), 0);
        c.due(y.who(0), 1);
        c.due(y.who(1), 0);
        // the first TABLE's lady counts ahead of the second's: 0 at both would do, she is at the first
        WhiteElephants z = new WhiteElephants();
        z.thing(0, 10, 0);
        z.thing(5, 10, 0);
        z.lady(33, 0);
        z.lady(32, 0);
        z.lady(33, 0);
        z.table(1);
        z.table(32);
        c.due(z.who(-1), 0);
        c.due(z.who(0), 0);
        c.due(z.who(1), 1);
    }

    private static void promise38TwentySightings() {
        WhiteElephants x = new WhiteElephants();
        for (int i = 0; i < 20; i++) {
            c.due(x.status(5), i);
            c.bad(x, () -> x.sight(100, 0, 0, 0));
            c.due(x.sight(80 + i, 255 >> 7 - i % 8, i % 17 - 1, 15 - i % 17), i);
        }
        c.refused(x, -6, () -> x.sight(0, 0, -1, -1));
        c.bad(x, () -> x.sight(0, 0, -2, -1));
        c.due(x.status(5), 20);
        int[][] bounds = {{0, 99}, {0, 255}, {-1, 15}, {-1, 15}};
        for (int part = 0; part < 4; part++) {
            for (int end = 0; end < 2; end++) {
                WhiteElephants y = new WhiteElephants();
                int[] of = {1, 1, 1, 1};
                of[part] = bounds[part][end];
                c.due(y.sight(of[0], of[1], of[2], of[3]), 0);
                of[part] += end == 0 ? -1 : 1;
                c.bad(y, () -> y.sight(of[0], of[1], of[2], of[3]));
                c.due(y.status(5), 1);
            }
        }
    }

    private static int same(int[] one, int[] later) {
        WhiteElephants x = new WhiteElephants();
        x.sight(one[0], one[1], one[2], one[3]);
        x.sight(later[0], later[1], later[2], later[3]);
        return x.same(0, 1);
    }

    private static void promise39Years() {
        int[] years = {0, 1, 49, 50, 98, 99};
        for (int year : years) {
            for (int later : years) {
                c.due(same(new int[] {year, 0, -1, -1}, new int[] {later, 0, -1, -1}), year < later ? 1 : 0);
            }
        }
        WhiteElephants x = new WhiteElephants();
        x.sight(5, 0, -1, -1);
        c.due(x.same(0, 0), 0);
        c.bad(x, () -> x.same(0, 1));
        c.bad(x, () -> x.same(1, 0));
        c.bad(x, () -> x.same(-1, 0));
        c.bad(x, () -> x.same(0, -1));
    }

    private static void promise39Chips() {
        for (int chip = 0; chip < 8; chip++) {
            int bit = 1 << chip;
            c.due(same(new int[] {1, bit, -1, -1}, new int[] {2, bit, -1, -1}), 1);
            c.due(same(new int[] {1, bit, -1, -1}, new int[] {2, 255 - bit, -1, -1}), 0);
            c.due(same(new int[] {1, 0, -1, -1}, new int[] {2, bit, -1, -1}), 1);
            c.due(same(new int[] {1, bit, -1, -1}, new int[] {2, 0, -1, -1}), 0);
            c.due(same(new int[] {1, 255 - bit, -1, -1}, new int[] {2, 255, -1, -1}), 1);
            c.due(same(new int[] {1, 255, -1, -1}, new int[] {2, 255 - bit, -1, -1}), 0);
        }
        c.due(same(new int[] {1, 255, -1, -1}, new int[] {2, 255, -1, -1}), 1);
    }

    private static void promise39Persons() {
        for (int bought = -1; bought <= 15; bought++) {
            for (int gave = -1; gave <= 15; gave++) {
                int want = bought == gave || bought == -1 || gave == -1 ? 1 : 0;
                c.due(same(new int[] {1, 0, 7, bought}, new int[] {2, 0, gave, 8}), want);
            }
        }
    }

    private static void promises40And41EmptyAndFull() {
        WhiteElephants none = new WhiteElephants();
        c.due(none.vases(), 0);
        c.due(none.longest(), 0);
        // all of one YEAR: none may be that of another one
        WhiteElephants apart = new WhiteElephants();
        WhiteElephants row = new WhiteElephants();
        for (int i = 0; i < 20; i++) {
            apart.sight(50, 0, -1, -1);
            row.sight(80 + i, 0, -1, -1);
            c.due(apart.vases(), i + 1);
            c.due(apart.longest(), 1);
            c.due(row.vases(), 1);
            c.due(row.longest(), i + 1);
        }
    }

    private static void promises40And41YearsAtTheEnds() {
        WhiteElephants x = new WhiteElephants();
        x.sight(99, 255, 15, -1);
        x.sight(0, 0, -1, 15);
        c.due(x.vases(), 1);
        c.due(x.longest(), 2);
        x.sight(98, 255, 15, 15);
        c.due(x.vases(), 1);
        c.due(x.longest(), 3);
        x.sight(1, 0, 15, 15);
        c.due(x.vases(), 1);
        c.due(x.longest(), 4);
        // of the YEARS at the ends again: two VASES
        x.sight(99, 255, 15, -1);
        c.due(x.vases(), 2);
        c.due(x.longest(), 4);
        x.sight(0, 0, -1, 15);
        c.due(x.vases(), 2);
        c.due(x.longest(), 4);
        x.sight(0, 0, -1, 15);
        c.due(x.vases(), 3);
    }

    private static void promise40WithTwenty() {
        // the ten earlier ones are one row, which can go on once; the ten later ones are of ten VASES
        WhiteElephants x = new WhiteElephants();
        for (int i = 9; i >= 0; i--) {
            x.sight(i, 0, -1, -1);
        }
        for (int i = 0; i < 10; i++) {
            x.sight(10, 1 << i % 8, -1, -1);
        }
        c.due(x.vases(), 10);
        c.due(x.longest(), 11);
        // who has CHIP i may go on as who has i and i - 1, or i + 1 and i; the last one has one way alone, so that
        // all must change theirs
        for (int n = 1; n <= 8; n++) {
            WhiteElephants y = new WhiteElephants();
            for (int i = n - 1; i >= 0; i--) {
                y.sight(2, 1 << i | (1 << i) / 2, -1, -1);
            }
            for (int i = 0; i < n; i++) {
                y.sight(1, 1 << i, -1, -1);
            }
            c.due(y.vases(), n);
            c.due(y.longest(), 2);
        }
        // persons 10 to 15 gave none of the later ones
        WhiteElephants z = new WhiteElephants();
        for (int i = 0; i < 10; i++) {
            z.sight(1, 0, -1, 6 + i);
        }
        for (int i = 0; i < 10; i++) {
            z.sight(2, 0, i, -1);
        }
        c.due(z.vases(), 16);
        c.due(z.longest(), 2);
    }

    private static WhiteElephants presents(int n) {
        WhiteElephants x = new WhiteElephants();
        for (int t = 0; t < n; t++) {
            x.thing(0, t, 0);
        }
        return x;
    }

    private static void promise42TenSecrets() {
        WhiteElephants x = presents(30);
        for (int i = 0; i < 10; i++) {
            c.due(x.status(6), i);
            c.bad(x, () -> x.secret(30, 0));
            c.bad(x, () -> x.secret(0, 16));
            c.due(x.secret(29 - i, 15 - i), i);
        }
        c.refused(x, -6, () -> x.secret(0, 0));
        c.bad(x, () -> x.secret(0, -1));
        c.bad(x, () -> x.secret(-1, 0));
        c.due(x.status(6), 10);
        for (int t = 0; t < 30; t++) {
            c.due(x.laid(10, t), t >= 20 ? 0 : -1);
        }
    }

    private static void promise43EachPersonAndTable() {
        WhiteElephants x = new WhiteElephants();
        for (int person = 0; person < 16; person++) {
            c.due(x.looks(person, 0), 0);
            c.due(x.looks(person, 31), 0);
            c.due(x.looks(person, 16 + person), 31);
        }
        for (int person = 0; person < 16; person++) {
            c.due(x.looks(person, 0), 16 + person);
            c.due(x.looks(person, 0), 0);
        }
        c.bad(x, () -> x.looks(16, 0));
        c.bad(x, () -> x.looks(-1, 0));
        c.bad(x, () -> x.looks(0, 32));
        c.bad(x, () -> x.looks(0, -1));
    }

    private static void promise44RoomOfEachSize() {
        for (int n = 0; n <= 10; n++) {
            WhiteElephants x = presents(10);
            for (int t = 0; t < n; t++) {
                x.secret(t, t);
            }
            for (int room = 1; room <= 10; room++) {
                int places = room;
                if (n > 5 * room) {
                    c.refused(x, -5, () -> x.laid(places, 0));
                    continue;
                }
                for (int t = 0; t < 10; t++) {
                    c.due(x.laid(room, t), t < n ? t / room : -1);
                }
            }
            c.bad(x, () -> x.laid(0, 0));
            c.bad(x, () -> x.laid(11, 0));
        }
        // one TABLE for ten: ROOM 10 is enough, 9 is not
        WhiteElephants x = presents(10);
        for (int t = 0; t < 10; t++) {
            x.secret(t, t);
            x.looks(t, 15);
        }
        c.due(x.laid(10, 0), 4);
        c.due(x.laid(10, 9), 4);
        c.refused(x, -5, () -> x.laid(9, 0));
        x.looks(9, 14);
        c.due(x.laid(9, 9), 0);
        c.due(x.laid(9, 8), 4);
    }

    private static void promise44EachTable() {
        for (int tables = 0; tables < 32; tables++) {
            WhiteElephants x = presents(2);
            x.secret(1, 3);
            x.looks(3, tables);
            int first = Integer.numberOfTrailingZeros(~tables);
            if (tables == 31) {
                c.refused(x, -5, () -> x.laid(10, 1));
            } else {
                c.due(x.laid(1, 1), first);
                c.due(x.laid(1, 0), -1);
            }
            c.due(x.looks(3, 0), tables);
        }
    }

    private static void promise44SixteenPersons() {
        for (int person = 0; person < 16; person++) {
            WhiteElephants x = presents(1);
            x.secret(0, person);
            for (int other = 0; other < 16; other++) {
                x.looks(other, other == person ? 0 : 31);
            }
            c.due(x.laid(1, 0), 0);
            x.looks(person, 1);
            c.due(x.laid(1, 0), 1);
        }
        // ten persons who must not see one THING: each TABLE that one of them LOOKS at is out
        WhiteElephants x = presents(1);
        for (int i = 0; i < 10; i++) {
            x.secret(0, 6 + i);
        }
        x.looks(6, 1);
        c.due(x.laid(1, 0), 1);
        x.looks(15, 2);
        c.due(x.laid(1, 0), 2);
        x.looks(10, 12);
        c.due(x.laid(1, 0), 4);
        x.looks(5, 16);
        c.due(x.laid(1, 0), 4);
        x.looks(11, 16);
        c.refused(x, -5, () -> x.laid(10, 0));
    }

    private static void promise44LastThing() {
        // of thirty THINGS the last has a SECRET, and the first; the least THING comes first
        WhiteElephants x = presents(30);
        x.secret(29, 0);
        x.secret(0, 0);
        c.due(x.laid(1, 0), 0);
        c.due(x.laid(1, 29), 1);
        c.due(x.laid(2, 29), 0);
        c.due(x.laid(1, 28), -1);
        c.bad(x, () -> x.laid(1, 30));
        // it leaves its TABLE to one that has no other
        x.secret(29, 1);
        x.looks(1, 30);
        c.due(x.laid(1, 0), 1);
        c.due(x.laid(1, 29), 0);
        // SOLD or not is all the same
        x.mark(29, 0);
        x.buyer(0, 0, 1, 100);
        x.go(1);
        c.due(x.laid(1, 29), 0);
    }

    /** THINGS that were SOLD for these sums, one an HOUR by a BUYER who has 9999, or several BUYERS. */
    private static WhiteElephants sold(int... paid) {
        WhiteElephants x = new WhiteElephants();
        for (int t = 0; t < paid.length; t++) {
            x.thing(0, 999, 0);
            x.mark(t, paid[t]);
        }
        for (int b = 0; b < 12; b++) {
            x.buyer(0, 9999, 1, 100);
        }
        x.go(12);
        return x;
    }

    private static void promise45LeastAndMost() {
        WhiteElephants x = sold(1);
        c.due(x.shortBy(1), 1);
        c.due(x.shortBy(2), -1);
        c.due(x.shortBy(9999), -1);
        c.bad(x, () -> x.shortBy(0));
        c.bad(x, () -> x.shortBy(10000));
        // ten of 999 and one of 9 come to 9999, with one of 8 to 9998
        WhiteElephants y = sold(999, 999, 999, 999, 999, 999, 999, 999, 999, 999, 9, 8);
        c.due(y.shortBy(9999), 2047);
        c.due(y.shortBy(9998), 1023 + 2048);
        c.due(y.shortBy(9997), -1);
        c.due(y.shortBy(9990), 1023);
        c.due(y.shortBy(9991), -1);
        c.due(y.shortBy(8), 2048);
        c.due(y.shortBy(9), 1024);
        c.due(y.shortBy(17), 3072);
        c.due(y.shortBy(7), -1);
        c.due(y.shortBy(999), 1);
        // what was SOLD for 0 is not among the fewest
        WhiteElephants z = sold(0, 5, 0);
        c.due(z.shortBy(5), 2);
        c.due(z.shortBy(1), -1);
        // 20 THINGS of 999 come to more than can be asked: ten of them to 9990
        int[] many = new int[30];
        java.util.Arrays.fill(many, 999);
        c.due(sold(many).shortBy(9990), 1023);
        c.due(sold(many).shortBy(9999), -1);
    }

    private static void promise45FewestThenLeastAsBits() {
        // fewest first: the last alone, though the two ahead of it are less as bits
        c.due(sold(5, 5, 10).shortBy(10), 4);
        c.due(sold(10, 5, 5).shortBy(10), 1);
        // of as many: 0 and 3, or 1 and 2
        c.due(sold(1, 2, 3, 4).shortBy(5), 6);
        c.due(sold(3, 2, 3, 2).shortBy(5), 3);
        c.due(sold(2, 2, 3, 3).shortBy(5), 5);
        // the least as bits by the highest bit first: 1 and 2 (6), not 0 and 3 (9)
        c.due(sold(4, 3, 2, 1).shortBy(5), 6);
        c.due(sold(4, 4, 4, 4).shortBy(8), 3);
        c.due(sold(4, 4, 4, 4).shortBy(16), 15);
        c.due(sold(4, 4, 4, 4).shortBy(17), -1);
    }

    private static void promise45EmptyAndFull() {
        WhiteElephants none = new WhiteElephants();
        c.due(none.shortBy(1), -1);
        c.due(none.shortBy(9999), -1);
        WhiteElephants unsold = new WhiteElephants();
        unsold.thing(0, 5, 0);
        unsold.mark(0, 5);
        c.due(unsold.shortBy(5), -1);
        int[] ones = new int[30];
        java.util.Arrays.fill(ones, 1);
        WhiteElephants full = sold(ones);
        for (int sum = 1; sum <= 30; sum++) {
            c.due(full.shortBy(sum), (1 << sum) - 1);
        }
        c.due(full.shortBy(31), -1);
    }

    private static void promise46EmptyOneAndFull() {
        WhiteElephants none = new WhiteElephants();
        c.bad(none, () -> none.hall(0, 0));
        for (int kind = 0; kind < 6; kind++) {
            // one alone goes to the first, of whatever KIND and worth
            WhiteElephants x = new WhiteElephants();
            x.thing(kind, 0, 255);
            for (int first = 0; first <= 2; first++) {
                c.due(x.hall(first, 0), first);
            }
            c.bad(x, () -> x.hall(3, 0));
            c.bad(x, () -> x.hall(-1, 0));
            c.bad(x, () -> x.hall(0, 1));
            x.mark(0, 0);
            x.buyer(0, 0, 63, 100);
            x.go(1);
            for (int first = 0; first <= 2; first++) {
                c.due(x.hall(first, 0), -1);
            }
        }
        // thirty that are worth the same: the last first, by turns
        WhiteElephants x = new WhiteElephants();
        for (int t = 0; t < 30; t++) {
            x.thing(0, 7, 0);
        }
        for (int first = 0; first <= 2; first++) {
            for (int t = 0; t < 30; t++) {
                c.due(x.hall(first, t), (first + 29 - t) % 3);
            }
        }
    }

    private static void promise46EachFirst() {
        WhiteElephants x = new WhiteElephants();
        for (int t = 0; t < 5; t++) {
            x.thing(0, 100 * t, 0);
        }
        int[][] want = {{1, 0, 2, 1, 0}, {2, 1, 0, 2, 1}, {0, 2, 1, 0, 2}};
        for (int first = 0; first <= 2; first++) {
            for (int t = 0; t < 5; t++) {
                c.due(x.hall(first, t), want[first][t]);
            }
        }
    }

    /** Two THINGS: of a KIND, worth 10, and of KIND 0, worth more; who takes first takes the one it likes. */
    private static void promise46Likes() {
        for (int kind = 1; kind < 6; kind++) {
            WhiteElephants x = new WhiteElephants();
            x.thing(kind, 10, 128);
            x.thing(0, 500, 0);
            c.due(x.hall(0, 1), 0);
            c.due(x.hall(0, 0), 1);
            c.due(x.hall(1, 0), kind >= 4 ? 1 : 2);
            c.due(x.hall(1, 1), kind >= 4 ? 2 : 1);
            c.due(x.hall(2, 0), kind <= 3 ? 2 : 0);
            c.due(x.hall(2, 1), kind <= 3 ? 0 : 2);
        }
        // of the KINDS it likes the greatest TRUE worth, of several the last, whichever of these KINDS
        WhiteElephants x = new WhiteElephants();
        x.thing(4, 999, 0);
        x.thing(5, 200, 0);
        x.thing(4, 201, 0);
        x.thing(5, 199, 0);
        c.due(x.hall(1, 2), 1);
        WhiteElephants y = new WhiteElephants();
        y.thing(1, 100, 0);
        y.thing(2, 100, 0);
        y.thing(3, 50, 0);
        y.thing(0, 100, 0);
        c.due(y.hall(2, 2), 2);
        c.due(y.hall(2, 3), 0);
        c.due(y.hall(2, 1), 1);
        c.due(y.hall(2, 0), 2);
    }
}
