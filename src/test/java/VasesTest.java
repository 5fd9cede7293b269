/** Promises 38 to 41: SIGHTINGS, and the VASES that they can be of. */
public final class VasesTest {
    private static final Check c = new Check();

    public static void main(String[] args) {
        promise38Sight();
        promise39Same();
        promises40And41VasesAndLongest();
        promise40VasesChangeTheirNext();
        c.end();
    }

    private static void promise38Sight() {
        WhiteElephants x = new WhiteElephants();
        c.bad(x, () -> x.sight(-1, 0, 0, 0));
        c.bad(x, () -> x.sight(100, 0, 0, 0));
        c.bad(x, () -> x.sight(0, -1, 0, 0));
        c.bad(x, () -> x.sight(0, 256, 0, 0));
        c.bad(x, () -> x.sight(0, 0, -2, 0));
        c.bad(x, () -> x.sight(0, 0, 16, 0));
        c.bad(x, () -> x.sight(0, 0, 0, -2));
        c.bad(x, () -> x.sight(0, 0, 0, 16));
        c.due(x.sight(0, 0, -1, -1), 0);
        c.due(x.sight(99, 255, 15, 15), 1);
        c.due(x.sight(0, 0, 0, 0), 2);
        for (int i = 3; i < 20; i++) {
            c.due(x.sight(i, i, -1, -1), i);
        }
        c.due(x.status(5), 20);
        c.bad(x, () -> x.sight(100, 0, 0, 0));
        c.refused(x, -6, () -> x.sight(0, 0, 0, 0));
        c.due(x.status(5), 20);
    }

    private static void dueSame(int want, int year, int chips, int bought, int laterYear, int laterChips, int gave) {
        WhiteElephants x = new WhiteElephants();
        x.sight(year, chips, -1, bought);
        x.sight(laterYear, laterChips, gave, -1);
        c.due(x.same(0, 1), want);
    }

    private static void promise39Same() {
        dueSame(1, 1, 0, 3, 2, 0, 3);
        dueSame(0, 2, 0, 3, 2, 0, 3);
        dueSame(0, 3, 0, 3, 2, 0, 3);
        dueSame(1, 0, 5, 3, 99, 7, 3);
        dueSame(0, 1, 5, 3, 2, 4, 3);
        dueSame(0, 1, 1, 3, 2, 2, 3);
        dueSame(0, 1, 0, 3, 2, 0, 4);
        dueSame(1, 1, 0, -1, 2, 0, 4);
        dueSame(1, 1, 0, 3, 2, 0, -1);
        dueSame(1, 1, 0, -1, 2, 0, -1);
        dueSame(1, 1, 0, 0, 2, 0, 0);
        dueSame(0, 1, 0, 0, 2, 0, 15);
        WhiteElephants x = new WhiteElephants();
        x.sight(1, 0, -1, -1);
        x.sight(2, 0, -1, -1);
        c.due(x.same(0, 0), 0);
        c.due(x.same(1, 0), 0);
        // who gave the earlier one and bought the later one is all the same
        x.sight(0, 0, 5, 7);
        x.sight(3, 0, 7, 9);
        c.due(x.same(2, 3), 1);
        c.bad(x, () -> x.same(-1, 1));
        c.bad(x, () -> x.same(4, 1));
        c.bad(x, () -> x.same(0, -1));
        c.bad(x, () -> x.same(0, 4));
    }

    private static void promises40And41VasesAndLongest() {
        WhiteElephants x = new WhiteElephants();
        c.due(x.vases(), 0);
        c.due(x.longest(), 0);
        x.sight(99, 0, -1, -1);
        c.due(x.vases(), 1);
        c.due(x.longest(), 1);
        x.sight(99, 0, -1, -1);
        c.due(x.vases(), 2);
        c.due(x.longest(), 1);
        // told later, seen earlier
        x.sight(0, 0, -1, -1);
        c.due(x.vases(), 2);
        c.due(x.longest(), 2);
        // each SIGHTING is of one VASE: both of 99 can't follow the one of 0
        x.sight(50, 0, -1, -1);
        c.due(x.vases(), 2);
        c.due(x.longest(), 3);
        WhiteElephants y = new WhiteElephants();
        for (int i = 0; i < 20; i++) {
            y.sight(99 - i, 255, 7, 7);
        }
        c.due(y.vases(), 1);
        c.due(y.longest(), 20);
        // what is not known in between does not make the others one's: each is compared with the next alone
        WhiteElephants z = new WhiteElephants();
        z.sight(1, 0, 1, 2);
        z.sight(2, 0, -1, -1);
        z.sight(3, 0, 5, 6);
        c.due(z.same(0, 2), 0);
        c.due(z.vases(), 1);
        c.due(z.longest(), 3);
        // nor can a VASE leave it out: two of 1 and two of 5 need it, and it is of one VASE alone
        z.sight(1, 0, 1, 2);
        z.sight(3, 0, 5, 6);
        c.due(z.vases(), 3);
        c.due(z.longest(), 3);
    }

    private static void promise40VasesChangeTheirNext() {
        // 0 may go on as 2 or 3, 1 as 2 alone: 0 must leave 2 to it
        WhiteElephants x = new WhiteElephants();
        x.sight(1, 0, -1, -1);
        x.sight(1, 1, -1, 4);
        x.sight(2, 1, 4, -1);
        x.sight(2, 2, 9, -1);
        c.due(x.vases(), 2);
        c.due(x.longest(), 2);
        // a chain of such changes through all twenty
        WhiteElephants y = new WhiteElephants();
        for (int i = 0; i < 10; i++) {
            y.sight(2, 255, i, -1);
        }
        for (int i = 0; i < 10; i++) {
            y.sight(1, 0, -1, i);
        }
        c.due(y.vases(), 10);
        c.due(y.longest(), 2);
        // a longest row that is in no fewest set of VASES alone
        WhiteElephants z = new WhiteElephants();
        z.sight(1, 0, -1, 1);
        z.sight(2, 0, 1, 2);
        z.sight(3, 0, 2, 3);
        z.sight(2, 0, 1, 5);
        z.sight(1, 0, -1, 1);
        c.due(z.vases(), 2);
        c.due(z.longest(), 3);
    }
}
