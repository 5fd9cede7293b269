/** Promises 35 to 37, 45 and 46: SHOWN, TABLES, WHO, SHORT, HALLS. */
public final class ChoicesTest {
    private static final Check c = new Check();

    public static void main(String[] args) {
        promise35Shown();
        promise35ShownOfSeveral();
        promise36Table();
        promise37Who();
        promise37WhoOfSeveral();
        promise37WhoRefuses();
        promise45Short();
        promise45ShortOfSeveral();
        promise46Hall();
        promise46HallOfSeveral();
        promise46HallOfAllAsItIs();
        c.end();
    }

    private static void bargain(WhiteElephants x, int kind, int gain) {
        int t = x.thing(kind, 100, 128);
        x.mark(t, x.thingOf(t, 3) - gain);
    }

    private static void promise35Shown() {
        WhiteElephants x = new WhiteElephants();
        bargain(x, 0, 10);
        bargain(x, 5, 40);
        bargain(x, 2, 25);
        bargain(x, 3, -5);
        bargain(x, 0, 0);
        x.thing(0, 999, 0);
        // minutes 2, 7, 4
        c.due(x.shown(0), 0);
        c.due(x.shown(1), 0);
        c.due(x.shown(2), 1);
        c.due(x.shown(3), 1);
        c.due(x.shown(4), 4);
        c.due(x.shown(6), 5);
        c.due(x.shown(7), 2);
        c.due(x.shown(9), 3);
        c.due(x.shown(11), 6);
        c.due(x.shown(13), 7);
        c.due(x.shown(200), 7);
        x.buyer(0, 100, 32, 100);
        x.go(1);
        c.due(x.shown(200), 5);
        c.bad(x, () -> x.shown(-1));
        c.bad(x, () -> x.shown(201));
    }

    private static void promise35ShownOfSeveral() {
        WhiteElephants x = new WhiteElephants();
        bargain(x, 0, 20);
        bargain(x, 0, 20);
        bargain(x, 2, 40);
        bargain(x, 0, 20);
        c.due(x.shown(2), 1);
        // 4 minutes: things 0 and 1, or thing 2 alone
        c.due(x.shown(4), 3);
        // 6 minutes: 0, 1, 3 or 0, 2 or 1, 2 or 2, 3
        c.due(x.shown(6), 5);
        WhiteElephants y = new WhiteElephants();
        for (int t = 0; t < 30; t++) {
            bargain(y, 5, 1);
        }
        c.due(y.shown(200), (1 << 28) - 1);
        c.due(y.shown(7), 1);
        c.due(y.shown(6), 0);
    }

    private static void promise36Table() {
        WhiteElephants x = new WhiteElephants();
        c.bad(x, () -> x.table(-1));
        c.bad(x, () -> x.table(64));
        c.due(x.table(0), 0);
        c.due(x.table(63), 1);
        c.due(x.table(63), 2);
        c.due(x.table(1), 3);
        c.due(x.table(1), 4);
        c.due(x.status(4), 5);
        c.bad(x, () -> x.table(64));
        c.refused(x, -6, () -> x.table(1));
        c.due(x.status(4), 5);
    }

    private static void promise37Who() {
        WhiteElephants x = new WhiteElephants();
        x.thing(1, 100, 0);
        x.thing(4, 60, 0);
        x.thing(5, 30, 0);
        x.lady(2, 0);
        x.lady(18, 0);
        x.lady(2, 60);
        c.due(x.who(-1), 0);
        x.table(2);
        c.due(x.who(-1), 0);
        c.due(x.who(0), 0);
        // CHINA and CLOTH: who KNOWS both belongs where CLOTH is
        x.table(16);
        c.due(x.who(-1), 0);
        c.due(x.who(0), 0);
        c.due(x.who(1), 1);
        // BOOKS are lost on all but the lady who guesses them
        x.table(32);
        c.due(x.who(-1), 0);
        c.due(x.who(0), 0);
        c.due(x.who(1), 1);
        c.due(x.who(2), 2);
    }

    private static void promise37WhoOfSeveral() {
        WhiteElephants x = new WhiteElephants();
        x.thing(0, 50, 0);
        x.thing(5, 50, 0);
        for (int lady = 0; lady < 5; lady++) {
            x.lady(0, 0);
        }
        x.table(1);
        x.table(32);
        x.table(33);
        c.due(x.who(-1), 200);
        c.due(x.who(0), 0);
        c.due(x.who(1), 1);
        c.due(x.who(2), 2);
        x.table(2);
        x.table(0);
        c.due(x.who(-1), 200);
        c.due(x.who(4), 4);
        // a KIND of two TABLES counts at both, and so do THINGS that are SOLD
        WhiteElephants y = new WhiteElephants();
        y.thing(0, 50, 0);
        y.lady(0, 40);
        y.lady(0, 20);
        y.lady(0, 60);
        y.table(1);
        y.table(1);
        c.due(y.who(-1), 30 + 20);
        c.due(y.who(0), 0);
        c.due(y.who(1), 2);
        y.mark(0, 1);
        y.buyer(0, 1, 1, 100);
        y.go(1);
        c.due(y.who(-1), 30 + 20);
        Check.law(y, "strange 100");
        y.goes(1, 0);
        c.due(y.who(-1), 20 + 30);
        y.goes(0, 0);
        c.due(y.who(-1), 10 + 20);
        y.goes(2, 0);
        c.due(y.who(-1), 0 + 10);
        c.due(y.who(0), 0);
        c.due(y.who(1), 2);
    }

    private static void promise37WhoRefuses() {
        WhiteElephants x = new WhiteElephants();
        c.bad(x, () -> x.who(0));
        c.bad(x, () -> x.who(-2));
        x.table(1);
        c.bad(x, () -> x.who(1));
        c.refused(x, -5, () -> x.who(0));
        c.refused(x, -5, () -> x.who(-1));
        x.lady(0, 0);
        c.due(x.who(0), 0);
        x.table(1);
        c.bad(x, () -> x.who(2));
        c.refused(x, -5, () -> x.who(1));
    }

    private static WhiteElephants sold(int... paid) {
        WhiteElephants x = new WhiteElephants();
        for (int t = 0; t < paid.length; t++) {
            x.thing(0, 999, 0);
            x.mark(t, paid[t]);
        }
        x.buyer(0, 9999, 1, 100);
        x.buyer(0, 9999, 1, 100);
        x.buyer(0, 9999, 1, 100);
        x.go(12);
        return x;
    }

    private static void promise45Short() {
        WhiteElephants x = sold(5, 10, 15, 30, 0);
        x.thing(0, 999, 0);
        x.mark(5, 7);
        c.due(x.shortBy(1), -1);
        c.due(x.shortBy(5), 1);
        c.due(x.shortBy(7), -1);
        // 5 and 10, or 15 alone: the fewest
        c.due(x.shortBy(15), 4);
        c.due(x.shortBy(25), 6);
        c.due(x.shortBy(30), 8);
        c.due(x.shortBy(55), 14);
        c.due(x.shortBy(60), 15);
        c.due(x.shortBy(61), -1);
        c.due(x.shortBy(9999), -1);
        c.bad(x, () -> x.shortBy(0));
        c.bad(x, () -> x.shortBy(-1));
        c.bad(x, () -> x.shortBy(10000));
        // as they were paid, not as they are PRICED
        WhiteElephants y = new WhiteElephants();
        y.thing(0, 999, 0);
        y.mark(0, 51);
        y.turn(0, 0);
        y.buyer(0, 999, 1, 100);
        y.go(1);
        c.due(y.shortBy(25), 1);
        c.due(y.shortBy(51), -1);
        // what was SOLD on a DAY before counts too
        y.morning();
        c.due(y.shortBy(25), 1);
    }

    private static void promise45ShortOfSeveral() {
        WhiteElephants x = sold(10, 20, 20, 10, 30, 40);
        c.due(x.shortBy(20), 2);
        c.due(x.shortBy(10), 1);
        // two of 50: 1 and 4 (18), 2 and 4 (20), 0 and 5 (33), 3 and 5 (40)
        c.due(x.shortBy(50), 18);
        // two of 60: 1 and 5 (34), 2 and 5 (36)
        c.due(x.shortBy(60), 34);
        int[] paid = new int[30];
        java.util.Arrays.fill(paid, 333);
        WhiteElephants y = sold(paid);
        c.due(y.shortBy(333), 1);
        c.due(y.shortBy(9990), (1 << 30) - 1);
        c.due(y.shortBy(9657), (1 << 29) - 1);
        c.due(y.shortBy(9999), -1);
    }

    private static void dueHalls(WhiteElephants x, int first, int... want) {
        for (int t = 0; t < want.length; t++) {
            c.due(x.hall(first, t), want[t]);
        }
    }

    private static void promise46Hall() {
        WhiteElephants x = new WhiteElephants();
        x.thing(0, 500, 0);
        x.thing(1, 400, 0);
        x.thing(5, 100, 0);
        x.thing(4, 90, 0);
        x.thing(3, 30, 128);
        x.thing(0, 20, 0);
        x.thing(0, 10, 0);
        // 0: 500; 1: the BOOK; 2: CHINA; 0: CLOTH; 1: no CLOTH, no BOOK: LIDDED; 2: no CHINA: 20; 0: 10
        dueHalls(x, 0, 0, 2, 1, 0, 1, 2, 0);
        // 1: the BOOK; 2: CHINA; 0: 500; 1: CLOTH; 2: LIDDED; 0: 20; 1: 10
        dueHalls(x, 1, 0, 2, 1, 1, 2, 0, 1);
        // 2: CHINA; 0: 500; 1: the BOOK; 2: LIDDED; 0: CLOTH; 1: 20; 2: 10
        dueHalls(x, 2, 0, 2, 1, 0, 2, 1, 2);
        c.bad(x, () -> x.hall(-1, 0));
        c.bad(x, () -> x.hall(3, 0));
        c.bad(x, () -> x.hall(0, -1));
        c.bad(x, () -> x.hall(0, 7));
        x.mark(0, 1);
        x.buyer(0, 1, 1, 100);
        x.go(1);
        // 0: CHINA; 1: the BOOK; 2: LIDDED; 0: CLOTH; 1: 20; 2: 10
        dueHalls(x, 0, -1, 0, 1, 0, 2, 1, 2);
    }

    private static void promise46HallOfSeveral() {
        WhiteElephants x = new WhiteElephants();
        x.thing(0, 50, 0);
        x.thing(0, 50, 0);
        x.thing(4, 999, 0);
        x.thing(5, 200, 0);
        x.thing(0, 0, 0);
        x.thing(0, 0, 0);
        // CLOTH of 999 is worth 200, as the BOOK is: of these the last goes first, the BOOK
        // 0: the BOOK; 1: CLOTH; 2: the later 50; 0: 50; 1: the later 0; 2: 0
        dueHalls(x, 0, 0, 2, 1, 0, 2, 1);
        // 1: the BOOK; 2: CLOTH; 0: the later 50; 1: 50; 2: the later 0; 0: 0
        dueHalls(x, 1, 1, 0, 2, 1, 0, 2);
    }

    private static void promise46HallOfAllAsItIs() {
        WhiteElephants x = new WhiteElephants();
        x.thing(1, 100, 0);
        x.thing(1, 95, 0);
        x.image();
        dueHalls(x, 0, 0, 1);
        // a CHIP: 90
        x.chip(0, 5);
        dueHalls(x, 0, 1, 0);
        x.thing(0, 200, 0);
        dueHalls(x, 0, 2, 1, 0);
        x.mark(2, 0);
        x.buyer(0, 0, 1, 0);
        x.go(1);
        dueHalls(x, 0, 1, 0, -1);
        x.back();
        dueHalls(x, 0, 0, 1);
    }
}
