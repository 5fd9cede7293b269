import java.util.function.ToIntFunction;

/**
 * By promise: each refused call's number, the order of the refusals in its line, that it is counted once, and that
 * nothing else changes by it; and the calls that refuse nothing. The scenes are described in Scenes.
 */
public final class RefusalsTest {
    private static final Check c = new Check();
    private static final Scenes empty = new Scenes(c, x -> { });
    private static final Scenes some = new Scenes(c, Scenes::some);
    private static final Scenes full = new Scenes(c, Scenes::full);
    private static final int LEAST = Integer.MIN_VALUE;
    private static final int MOST = Integer.MAX_VALUE;

    public static void main(String[] args) {
        promises2To4Rows();
        promise4Copy();
        promises5And6RefuseNothing();
        promises7And8Shelves();
        promises9To12Things();
        promises13And14Ladies();
        promises15To18Tape();
        promises19To21Prices();
        promises22To24Buyers();
        promises25To28Costs();
        promises29To31Judge();
        promises32To34Day();
        promises35To37Choices();
        promise37Stuck();
        promises38To41Sightings();
        promises42To44Secrets();
        promise44Stuck();
        promises45And46();
        promises47And48();
        promise49Status();
        c.end();
    }

    /** BAD in each scene, whatever else would be refused there. */
    private static void bad(ToIntFunction<WhiteElephants> call) {
        empty.bad(call);
        some.bad(call);
        full.bad(call);
    }

    private static void promises2To4Rows() {
        bad(x -> x.row(-1, 0, 0));
        bad(x -> x.row(8, 0, 0));
        bad(x -> x.row(0, -1, 0));
        bad(x -> x.row(0, 5, 0));
        bad(x -> x.row(0, 0, -1));
        bad(x -> x.row(0, 0, 41));
        bad(x -> x.row(LEAST, 0, 0));
        bad(x -> x.row(MOST, 0, 0));
        bad(x -> x.row(2, LEAST, MOST));
        bad(x -> x.row(2, MOST, LEAST));
        bad(x -> x.set(-1, 0, 1));
        bad(x -> x.set(8, 0, 1));
        bad(x -> x.set(LEAST, LEAST, 1));
        bad(x -> x.set(MOST, MOST, 1));
        // OTHER and NOTHING come ahead of a BAD i
        some.no(-3, x -> x.set(2, 0, 1));
        some.no(-3, x -> x.set(2, -1, 1));
        some.no(-3, x -> x.set(5, MOST, 1));
        some.no(-4, x -> x.set(4, 0, 1));
        some.no(-4, x -> x.set(7, -1, 1));
        empty.no(-4, x -> x.set(0, 0, 1));
        empty.no(-4, x -> x.set(7, LEAST, 1));
        some.bad(x -> x.set(0, -1, 1));
        some.bad(x -> x.set(0, 4, 1));
        some.bad(x -> x.set(0, MOST, 1));
        some.bad(x -> x.set(0, LEAST, 1));
        some.bad(x -> x.set(3, 0, 1));
        full.bad(x -> x.set(6, 40, 1));
        full.bad(x -> x.set(0, -1, 1));
        full.no(-3, x -> x.set(7, 40, 1));
    }

    private static void promise4Copy() {
        bad(x -> x.copy(-1, 0, 0, 0, 1));
        bad(x -> x.copy(8, 0, 0, 0, 1));
        bad(x -> x.copy(0, -1, 0, 0, 1));
        bad(x -> x.copy(0, 8, 0, 0, 1));
        bad(x -> x.copy(LEAST, MOST, 0, 0, 1));
        // a BAD SHELF comes ahead of what the other one holds
        some.bad(x -> x.copy(2, 8, 0, 0, 1));
        some.bad(x -> x.copy(-1, 2, 0, 0, 1));
        some.bad(x -> x.copy(4, 8, 0, 0, 1));
        // OTHER: a THING on either side, also beside NOTHING and BAD places; ROWS of two SORTS, also of no elements
        some.no(-3, x -> x.copy(2, 0, 0, 0, 1));
        some.no(-3, x -> x.copy(0, 2, 0, 0, 1));
        some.no(-3, x -> x.copy(2, 5, 0, 0, 0));
        some.no(-3, x -> x.copy(2, 4, 0, 0, 1));
        some.no(-3, x -> x.copy(4, 2, 0, 0, 1));
        some.no(-3, x -> x.copy(2, 2, -1, -1, -1));
        some.no(-3, x -> x.copy(0, 1, 0, 0, 1));
        some.no(-3, x -> x.copy(1, 0, 0, 0, 0));
        some.no(-3, x -> x.copy(0, 1, -1, 0, 1));
        some.no(-3, x -> x.copy(3, 0, 0, 0, 0));
        full.no(-3, x -> x.copy(0, 1, 0, 0, 40));
        full.no(-3, x -> x.copy(7, 0, 0, 0, 1));
        // NOTHING comes ahead of BAD places
        some.no(-4, x -> x.copy(4, 0, 0, 0, 1));
        some.no(-4, x -> x.copy(0, 4, 0, 0, 1));
        some.no(-4, x -> x.copy(4, 4, 0, 0, 0));
        some.no(-4, x -> x.copy(4, 6, -1, 0, 1));
        some.no(-4, x -> x.copy(0, 7, 0, 0, 41));
        empty.no(-4, x -> x.copy(0, 7, 0, 0, 0));
        // the others
        some.bad(x -> x.copy(0, 0, -1, 0, 1));
        some.bad(x -> x.copy(0, 0, 0, -1, 1));
        some.bad(x -> x.copy(0, 0, 0, 0, -1));
        some.bad(x -> x.copy(0, 0, 0, 0, 5));
        some.bad(x -> x.copy(0, 0, 1, 0, 4));
        some.bad(x -> x.copy(0, 0, 0, 1, 4));
        some.bad(x -> x.copy(0, 0, 4, 0, 1));
        some.bad(x -> x.copy(0, 0, 0, 4, 1));
        some.bad(x -> x.copy(0, 0, 5, 0, 0));
        some.bad(x -> x.copy(0, 0, 0, 5, 0));
        some.bad(x -> x.copy(3, 3, 0, 0, 1));
        some.bad(x -> x.copy(0, 0, MOST, 0, 1));
        some.bad(x -> x.copy(0, 0, 1, 1, MOST));
        some.bad(x -> x.copy(0, 0, MOST, MOST, 2));
        some.bad(x -> x.copy(0, 0, LEAST, 0, LEAST));
        full.bad(x -> x.copy(0, 5, 0, 0, 41));
        full.bad(x -> x.copy(0, 5, 1, 0, 40));
        full.bad(x -> x.copy(0, 5, 0, 1, 40));
    }

    private static void promises5And6RefuseNothing() {
        for (int s : new int[] {-1, 8, LEAST, MOST}) {
            for (Scenes scene : new Scenes[] {empty, some, full}) {
                scene.asks(0, x -> (int) x.element(s, 0));
                scene.asks(-1, x -> x.holds(s));
            }
        }
        for (int i : new int[] {-1, 4, 40, LEAST, MOST}) {
            some.asks(0, x -> (int) x.element(0, i));
        }
        some.asks(102, x -> (int) x.element(0, 2));
        some.asks(0, x -> (int) x.element(0, 3));
        some.asks(0, x -> (int) x.element(2, 0));
        some.asks(0, x -> (int) x.element(3, 0));
        some.asks(0, x -> (int) x.element(4, 0));
        full.asks(0, x -> (int) x.element(5, 40));
        full.asks(6, x -> (int) x.element(5, 39));
        empty.asks(-1, x -> x.holds(0));
        some.asks(2, x -> x.holds(0));
        some.asks(0, x -> x.holds(3));
        some.asks(14, x -> x.holds(5));
        full.asks(39, x -> x.holds(7));
    }

    private static void promises7And8Shelves() {
        bad(x -> x.show(-1, -1));
        bad(x -> x.show(8, -1));
        bad(x -> x.show(0, -2));
        bad(x -> x.show(0, 30));
        bad(x -> x.show(0, LEAST));
        bad(x -> x.show(0, MOST));
        empty.bad(x -> x.show(0, 0));
        some.bad(x -> x.show(8, 0));
        some.bad(x -> x.show(0, 5));
        bad(x -> x.says(-1, 0));
        bad(x -> x.says(8, 0));
        bad(x -> x.says(0, -1));
        bad(x -> x.says(0, 6));
        bad(x -> x.says(LEAST, MOST));
        // a BAD KIND comes ahead of what the SHELF holds; OTHER is a ROW, or a THING of no such KIND
        some.bad(x -> x.says(4, 6));
        some.bad(x -> x.says(2, 6));
        some.no(-3, x -> x.says(0, 0));
        some.no(-3, x -> x.says(3, 5));
        some.no(-3, x -> x.says(2, 3));
        some.no(-3, x -> x.says(2, 4));
        some.no(-3, x -> x.says(2, 5));
        some.no(-3, x -> x.says(5, 4));
        some.no(-4, x -> x.says(4, 0));
        some.no(-4, x -> x.says(6, 5));
        empty.no(-4, x -> x.says(7, 3));
        full.no(-3, x -> x.says(7, 1));
        full.no(-3, x -> x.says(7, 4));
    }

    private static void promises9To12Things() {
        bad(x -> x.thing(-1, 0, 0));
        bad(x -> x.thing(6, 0, 0));
        bad(x -> x.thing(0, -1, 0));
        bad(x -> x.thing(0, 1000, 0));
        bad(x -> x.thing(0, 0, -1));
        bad(x -> x.thing(0, 0, 256));
        bad(x -> x.thing(MOST, LEAST, MOST));
        full.no(-6, x -> x.thing(0, 0, 0));
        full.no(-6, x -> x.thing(5, 999, 255));
        bad(x -> x.things(-1, 0, 0));
        bad(x -> x.things(8, 0, 0));
        bad(x -> x.things(0, -1, 0));
        bad(x -> x.things(0, 6, 0));
        some.bad(x -> x.things(2, 6, 0));
        some.bad(x -> x.things(4, -1, 0));
        some.no(-3, x -> x.things(2, 0, 0));
        some.no(-3, x -> x.things(2, 5, -1));
        some.no(-4, x -> x.things(4, 0, 0));
        some.no(-4, x -> x.things(7, 5, 41));
        empty.no(-4, x -> x.things(0, 0, 0));
        some.bad(x -> x.things(0, 0, -1));
        some.bad(x -> x.things(0, 0, 5));
        some.bad(x -> x.things(3, 0, 1));
        some.bad(x -> x.things(0, 0, MOST));
        full.bad(x -> x.things(2, 0, 41));
        full.bad(x -> x.things(2, 0, -1));
        // no room, or a WORTH that may not be, is no refusal
        full.asks(0, x -> x.things(2, 0, 40));
        full.asks(0, x -> x.things(2, 0, 0));
        some.asks(0, x -> x.things(3, 0, 0));
        bad(x -> x.thingOf(-1, 0));
        bad(x -> x.thingOf(30, 0));
        bad(x -> x.thingOf(0, -1));
        bad(x -> x.thingOf(0, 7));
        bad(x -> x.thingOf(MOST, MOST));
        empty.bad(x -> x.thingOf(0, 0));
        some.bad(x -> x.thingOf(5, 0));
        bad(x -> x.chip(-1, 0));
        bad(x -> x.chip(30, 0));
        bad(x -> x.chip(0, -1));
        bad(x -> x.chip(0, 8));
        bad(x -> x.chip(0, LEAST));
        empty.bad(x -> x.chip(0, 0));
        some.bad(x -> x.chip(5, 0));
        some.asks(0, x -> x.chip(0, 4));
    }

    private static void promises13And14Ladies() {
        bad(x -> x.lady(-1, 0));
        bad(x -> x.lady(64, 0));
        bad(x -> x.lady(0, -1));
        bad(x -> x.lady(0, 1000));
        bad(x -> x.lady(LEAST, MOST));
        full.no(-6, x -> x.lady(0, 0));
        full.no(-6, x -> x.lady(63, 999));
        bad(x -> x.goes(-1, -1));
        bad(x -> x.goes(5, -1));
        bad(x -> x.goes(0, -2));
        bad(x -> x.goes(0, 6));
        bad(x -> x.goes(MOST, LEAST));
        empty.bad(x -> x.goes(0, -1));
        some.bad(x -> x.goes(2, 0));
        some.bad(x -> x.goes(0, 1));
    }

    private static void promises15To18Tape() {
        bad(x -> x.feed(65, 0));
        bad(x -> x.feed(65, 5));
        bad(x -> x.feed(65, -1));
        bad(x -> x.feed(65, LEAST));
        bad(x -> x.feed(65, MOST));
        for (int n = 1; n <= 4; n++) {
            int bytes = n;
            full.no(-6, x -> x.feed(0x20202020, bytes));
        }
        // what is on THE TAPE stays, and so does its size
        full.no(-6, x -> x.law());
        lawRefusesAFault();
        empty.asks(0, x -> x.wipe());
        bad(x -> x.lawOf(-1, 0));
        bad(x -> x.lawOf(6, 0));
        bad(x -> x.lawOf(0, -1));
        bad(x -> x.lawOf(0, 5));
        bad(x -> x.lawOf(LEAST, MOST));
        empty.bad(x -> x.lawOf(0, 0));
        some.bad(x -> x.lawOf(1, 0));
    }

    /** A FAULT is counted as BAD, once, and leaves nothing but an empty TAPE; of an empty one it leaves all. */
    private static void lawRefusesAFault() {
        empty.no(-2, x -> x.law() == -20 ? -2 : 0);
        new Scenes(c, x -> {
            Scenes.some(x);
            x.wipe();
        }).dueOf(x -> {
            Scenes.some(x);
            x.feed(';', 1);
            c.due(x.status(12), 1);
            c.due(x.law(), -20 - 10);
            c.due(x.status(12), 2);
        });
    }

    private static void promises19To21Prices() {
        bad(x -> x.thinks(-1, 0, false));
        bad(x -> x.thinks(5, 0, false));
        bad(x -> x.thinks(0, -1, true));
        bad(x -> x.thinks(0, 30, true));
        bad(x -> x.thinks(MOST, MOST, true));
        empty.bad(x -> x.thinks(0, 0, false));
        some.bad(x -> x.thinks(2, 0, false));
        some.bad(x -> x.thinks(0, 5, true));
        bad(x -> x.price(-1, 0));
        bad(x -> x.price(5, 0));
        bad(x -> x.price(0, -1));
        bad(x -> x.price(0, 64));
        bad(x -> x.price(LEAST, LEAST));
        empty.bad(x -> x.price(0, 63));
        some.bad(x -> x.price(2, 63));
        bad(x -> x.mark(-1, 0));
        bad(x -> x.mark(30, 0));
        bad(x -> x.mark(0, -2));
        bad(x -> x.mark(0, 1000));
        bad(x -> x.mark(0, LEAST));
        bad(x -> x.mark(0, MOST));
        empty.bad(x -> x.mark(0, 0));
        some.bad(x -> x.mark(5, 0));
        // BAD comes ahead of STUCK
        some.bad(x -> x.mark(2, 1000));
        some.bad(x -> x.mark(2, -2));
        some.no(-5, x -> x.mark(2, 0));
        some.no(-5, x -> x.mark(2, 20));
        some.no(-5, x -> x.mark(2, 999));
        some.no(-5, x -> x.mark(2, -1));
    }

    private static void promises22To24Buyers() {
        bad(x -> x.buyer(-1, 0, 0, 0));
        bad(x -> x.buyer(12, 0, 0, 0));
        bad(x -> x.buyer(0, -1, 0, 0));
        bad(x -> x.buyer(0, 10000, 0, 0));
        bad(x -> x.buyer(0, 0, -1, 0));
        bad(x -> x.buyer(0, 0, 64, 0));
        bad(x -> x.buyer(0, 0, 0, -1));
        bad(x -> x.buyer(0, 0, 0, 301));
        bad(x -> x.buyer(LEAST, MOST, LEAST, MOST));
        full.no(-6, x -> x.buyer(0, 0, 0, 0));
        full.no(-6, x -> x.buyer(11, 9999, 63, 300));
        bad(x -> x.buyerOf(-1, 0));
        bad(x -> x.buyerOf(12, 0));
        bad(x -> x.buyerOf(0, -1));
        bad(x -> x.buyerOf(0, 5));
        bad(x -> x.buyerOf(MOST, LEAST));
        empty.bad(x -> x.buyerOf(0, 0));
        some.bad(x -> x.buyerOf(2, 0));
        bad(x -> x.turn(-1, 0));
        bad(x -> x.turn(2, 0));
        bad(x -> x.turn(0, -1));
        bad(x -> x.turn(0, 13));
        bad(x -> x.turn(1, -1));
        bad(x -> x.turn(1, 13));
        bad(x -> x.turn(LEAST, MOST));
    }

    private static void promises25To28Costs() {
        bad(x -> x.costs(-1, 0));
        bad(x -> x.costs(30, 0));
        bad(x -> x.costs(0, -1));
        bad(x -> x.costs(0, 12));
        bad(x -> x.costs(MOST, LEAST));
        empty.bad(x -> x.costs(0, 0));
        some.bad(x -> x.costs(5, 0));
        // that it is UNPRICED is no refusal, but a BAD HOUR is one ahead of it
        some.asks(-1, x -> x.costs(1, 0));
        some.bad(x -> x.costs(1, 12));
        bad(x -> x.takes(-1, 0));
        bad(x -> x.takes(12, 0));
        bad(x -> x.takes(0, -1));
        bad(x -> x.takes(0, 12));
        bad(x -> x.takes(LEAST, LEAST));
        empty.bad(x -> x.takes(0, 0));
        some.bad(x -> x.takes(2, 0));
        some.asks(-1, x -> x.takes(1, 4));
        bad(x -> x.takings(-1, 0));
        bad(x -> x.takings(13, 0));
        bad(x -> x.takings(0, -1));
        bad(x -> x.takings(0, 13));
        bad(x -> x.takings(MOST, LEAST));
        empty.asks(0, x -> x.takings(12, 0));
        // in HOUR 5 the BOOK is worth 48 to BUYER 1, who pays 45; by a HALF of 5 the VASE for 50 is worth more
        some.asks(45, x -> x.takings(12, 12));
        some.asks(50 + 22, x -> x.takings(5, 12));
        some.asks(10 + 10, x -> x.takings(12, 0));
        empty.asks(1212, x -> x.best());
        some.asks(512, x -> x.best());
    }

    private static void promises29To31Judge() {
        bad(x -> x.judge(-1));
        bad(x -> x.judge(8));
        bad(x -> x.judge(LEAST));
        bad(x -> x.judge(MOST));
        some.no(-3, x -> x.judge(2));
        some.no(-3, x -> x.judge(5));
        some.no(-4, x -> x.judge(4));
        some.no(-4, x -> x.judge(7));
        empty.no(-4, x -> x.judge(0));
        full.no(-3, x -> x.judge(7));
        some.asks(0, x -> x.judge(0));
        some.asks(5, x -> x.judge(3));
        bad(x -> x.rest(-2));
        bad(x -> x.rest(6));
        bad(x -> x.rest(LEAST));
        bad(x -> x.rest(MOST));
        empty.asks(0, x -> x.rest(-1));
        bad(x -> x.loses(-1, 0));
        bad(x -> x.loses(5, 0));
        bad(x -> x.loses(0, -1));
        bad(x -> x.loses(0, 64));
        bad(x -> x.loses(MOST, MOST));
        empty.bad(x -> x.loses(0, 63));
        some.bad(x -> x.loses(2, 63));
        some.asks(0, x -> x.loses(0, 0));
    }

    private static void promises32To34Day() {
        // BAD comes ahead of STUCK, which the full one is
        bad(x -> x.go(0));
        bad(x -> x.go(13));
        bad(x -> x.go(-1));
        bad(x -> x.go(LEAST));
        bad(x -> x.go(MOST));
        full.no(-5, x -> x.go(1));
        full.no(-5, x -> x.go(12));
        bad(x -> x.day(-1));
        bad(x -> x.day(4));
        bad(x -> x.day(LEAST));
        bad(x -> x.day(MOST));
        empty.asks(0, x -> x.day(3));
        some.asks(2, x -> x.day(0));
        some.asks(20, x -> x.day(1));
        some.asks(1, x -> x.day(2));
        some.asks(4, x -> x.day(3));
        full.asks(12, x -> x.day(0));
        empty.asks(0, x -> x.morning());
    }

    private static void promises35To37Choices() {
        bad(x -> x.shown(-1));
        bad(x -> x.shown(201));
        bad(x -> x.shown(LEAST));
        bad(x -> x.shown(MOST));
        empty.asks(0, x -> x.shown(200));
        some.asks(0, x -> x.shown(3));
        bad(x -> x.table(-1));
        bad(x -> x.table(64));
        bad(x -> x.table(LEAST));
        bad(x -> x.table(MOST));
        full.no(-6, x -> x.table(0));
        full.no(-6, x -> x.table(63));
        bad(x -> x.who(-2));
        bad(x -> x.who(5));
        bad(x -> x.who(LEAST));
        bad(x -> x.who(MOST));
        empty.bad(x -> x.who(0));
        some.bad(x -> x.who(2));
        empty.asks(0, x -> x.who(-1));
    }

    private static void promise37Stuck() {
        Scenes twoTables = new Scenes(c, Scenes::twoTables);
        twoTables.bad(x -> x.who(-2));
        twoTables.bad(x -> x.who(2));
        twoTables.no(-5, x -> x.who(-1));
        twoTables.no(-5, x -> x.who(0));
        twoTables.no(-5, x -> x.who(1));
    }

    private static void promises38To41Sightings() {
        bad(x -> x.sight(-1, 0, 0, 0));
        bad(x -> x.sight(100, 0, 0, 0));
        bad(x -> x.sight(0, -1, 0, 0));
        bad(x -> x.sight(0, 256, 0, 0));
        bad(x -> x.sight(0, 0, -2, 0));
        bad(x -> x.sight(0, 0, 16, 0));
        bad(x -> x.sight(0, 0, 0, -2));
        bad(x -> x.sight(0, 0, 0, 16));
        bad(x -> x.sight(LEAST, MOST, LEAST, MOST));
        full.no(-6, x -> x.sight(0, 0, 0, 0));
        full.no(-6, x -> x.sight(99, 255, -1, 15));
        bad(x -> x.same(-1, 0));
        bad(x -> x.same(20, 0));
        bad(x -> x.same(0, -1));
        bad(x -> x.same(0, 20));
        bad(x -> x.same(MOST, LEAST));
        empty.bad(x -> x.same(0, 0));
        some.bad(x -> x.same(3, 0));
        some.bad(x -> x.same(0, 3));
        some.asks(1, x -> x.same(0, 1));
        some.asks(0, x -> x.same(1, 1));
        empty.asks(0, x -> x.vases());
        some.asks(1, x -> x.vases());
        empty.asks(0, x -> x.longest());
        some.asks(3, x -> x.longest());
    }

    private static void promises42To44Secrets() {
        bad(x -> x.secret(-1, 0));
        bad(x -> x.secret(30, 0));
        bad(x -> x.secret(0, -1));
        bad(x -> x.secret(0, 16));
        bad(x -> x.secret(LEAST, MOST));
        empty.bad(x -> x.secret(0, 0));
        some.bad(x -> x.secret(5, 0));
        full.no(-6, x -> x.secret(0, 0));
        full.no(-6, x -> x.secret(29, 15));
        bad(x -> x.looks(-1, 0));
        bad(x -> x.looks(16, 0));
        bad(x -> x.looks(0, -1));
        bad(x -> x.looks(0, 32));
        bad(x -> x.looks(LEAST, LEAST));
        bad(x -> x.laid(0, 0));
        bad(x -> x.laid(11, 0));
        bad(x -> x.laid(1, -1));
        bad(x -> x.laid(1, 30));
        bad(x -> x.laid(LEAST, MOST));
        empty.bad(x -> x.laid(1, 0));
        some.bad(x -> x.laid(1, 5));
        some.asks(2, x -> x.laid(1, 0));
        some.asks(0, x -> x.laid(1, 3));
        some.asks(-1, x -> x.laid(1, 1));
        // ten THINGS have SECRETS: five TABLES with ROOM 1 are too few
        full.no(-5, x -> x.laid(1, 29));
        full.asks(-1, x -> x.laid(2, 0));
    }

    private static void promise44Stuck() {
        Scenes unlayable = new Scenes(c, Scenes::unlayable);
        unlayable.bad(x -> x.laid(0, 0));
        unlayable.bad(x -> x.laid(11, 0));
        unlayable.bad(x -> x.laid(10, 2));
        unlayable.no(-5, x -> x.laid(1, 0));
        unlayable.no(-5, x -> x.laid(10, 0));
        unlayable.no(-5, x -> x.laid(10, 1));
    }

    private static void promises45And46() {
        bad(x -> x.shortBy(0));
        bad(x -> x.shortBy(10000));
        bad(x -> x.shortBy(-1));
        bad(x -> x.shortBy(LEAST));
        bad(x -> x.shortBy(MOST));
        empty.asks(-1, x -> x.shortBy(1));
        some.asks(-1, x -> x.shortBy(9999));
        some.asks(4, x -> x.shortBy(20));
        bad(x -> x.hall(-1, 0));
        bad(x -> x.hall(3, 0));
        bad(x -> x.hall(0, -1));
        bad(x -> x.hall(0, 30));
        bad(x -> x.hall(LEAST, MOST));
        empty.bad(x -> x.hall(0, 0));
        some.bad(x -> x.hall(0, 5));
        some.bad(x -> x.hall(3, 2));
        some.asks(-1, x -> x.hall(0, 2));
    }

    private static void promises47And48() {
        empty.no(-5, x -> x.back());
        new Scenes(c, Scenes::twoTables).no(-5, x -> x.back());
    }

    private static void promise49Status() {
        for (int what : new int[] {-1, 9, 10, 11, 17, LEAST, MOST}) {
            empty.asks(-1, x -> x.status(what));
            some.asks(-1, x -> x.status(what));
            full.asks(-1, x -> x.status(what));
        }
        some.asks(1, x -> x.status(12));
        some.asks(1, x -> x.status(13));
        some.asks(1, x -> x.status(14));
        some.asks(1, x -> x.status(15));
        some.asks(0, x -> x.status(16));
        some.asks(5, x -> x.status(8));
        full.asks(8, x -> x.status(8));
        full.asks(120, x -> x.status(7));
    }
}
