import java.util.ArrayList;
import java.util.List;
import java.util.Map;
import java.util.Objects;
import java.util.TreeSet;
import java.util.function.Consumer;
import java.util.function.ToLongFunction;

/**
 * By promise: what a call changes, and that all else that can be asked stays as it was: in the object, in what its
 * image keeps, and in how many REFUSALS there were. The scenes are Scenes.rich, with an image and without.
 */
public final class RestStaysTest {
    private static final Check c = new Check();
    private static final String NOTHING = "nothing";
    private static final String SALE = "|takes .*|takings .*|shown .*|judge .|best";
    private static final String LAW_OF_TAPE = "|law|(known|most) of (that|the last) law";
    private static final Scene kept = new Scene(Scenes::rich);
    private static final Scene unkept = new Scene(Scenes::richUnkept);
    private static final Scene back = new Scene(x -> {
        Scenes.rich(x);
        x.back();
    });

    /** How an object is made, and all that it tells then, part by part. */
    private static final class Scene {
        final Consumer<WhiteElephants> making;
        final List<Map<String, Long>> told = new ArrayList<>();

        Scene(Consumer<WhiteElephants> making) {
            this.making = making;
            for (int part = 0; part < Told.PARTS; part++) {
                told.add(Told.byCalls(made(), part));
            }
        }

        WhiteElephants made() {
            WhiteElephants x = new WhiteElephants();
            making.accept(x);
            return x;
        }
    }

    public static void main(String[] args) {
        promises2To4Rows();
        promises5To8Shelves();
        promises9And10Things();
        promises11And12Chips();
        promises13And14Ladies();
        promises15To18Tape();
        promises19To21Prices();
        promises22To24Buyers();
        promises25To31Questions();
        promises32To34Day();
        promises35To37Choices();
        promises38To41Sightings();
        promises42To46Secrets();
        promise47Image();
        promise48Back();
        promise49Status();
        c.end();
    }

    /** What the call changes comes back by back(). */
    private static void inHall(String changes, long want, ToLongFunction<WhiteElephants> call) {
        both(changes, NOTHING, want, call);
    }

    /** What the call changes is on the SHELVES and THE TAPE, so that it stays at back(). */
    private static void around(String changes, long want, ToLongFunction<WhiteElephants> call) {
        both(changes, changes, want, call);
    }

    private static void onlyAsks(long want, ToLongFunction<WhiteElephants> call) {
        both(NOTHING, NOTHING, want, call);
    }

    private static void both(String changes, String staysAtBack, long want, ToLongFunction<WhiteElephants> call) {
        stays(kept, kept, changes, want, call);
        stays(unkept, unkept, changes, want, call);
        stays(kept, back, staysAtBack, 1, x -> {
            call.applyAsLong(x);
            return x.back();
        });
        isToldAnew(call);
    }

    /** What was asked ahead of the call is answered behind it as if it had not been asked yet. */
    private static void isToldAnew(ToLongFunction<WhiteElephants> call) {
        for (int part = 0; part < Told.LAST; part++) {
            WhiteElephants asked = kept.made();
            Told.part(asked, part);
            call.applyAsLong(asked);
            WhiteElephants unasked = kept.made();
            call.applyAsLong(unasked);
            differ(Told.byCalls(asked, part), Told.byCalls(unasked, part), NOTHING);
        }
    }

    /** The call answers want; then all is told as in the other scene, but for what "changes" names. */
    private static void stays(Scene scene, Scene other, String changes, long want,
            ToLongFunction<WhiteElephants> call) {
        boolean changed = false;
        for (int part = 0; part < Told.PARTS; part++) {
            WhiteElephants x = scene.made();
            int[] refusals = Check.refusals(x);
            c.due(call.applyAsLong(x), want);
            for (int i = 0; i < refusals.length; i++) {
                c.due(x.status(12 + i), refusals[i]);
            }
            changed |= differ(Told.byCalls(x, part), other.told.get(part), changes);
        }
        c.holds(changed != changes.equals(NOTHING), "it changes " + (changed ? "something" : "nothing"));
    }

    private static boolean differ(Map<String, Long> told, Map<String, Long> want, String changes) {
        TreeSet<String> calls = new TreeSet<>(want.keySet());
        calls.addAll(told.keySet());
        boolean changed = false;
        for (String call : calls) {
            if (!Objects.equals(told.get(call), want.get(call))) {
                changed = true;
                c.holds(call.replace(" behind back", "").matches(changes),
                    call + " answers " + told.get(call) + ", due is " + want.get(call) + " as elsewhere");
            }
        }
        return changed;
    }

    private static void promises2To4Rows() {
        around("holds 3|element 3 .|judge 3", 1, x -> x.row(3, 1, 7));
        around("element 3 .|judge 3", 1, x -> x.row(3, 0, 5));
        around("holds 2|says 2 .|judge 2", 1, x -> x.row(2, 4, 40));
        around("element 0 2", 1, x -> x.set(0, 2, 77));
        around("element 4 4", 1, x -> x.set(4, 4, 0));
        around("element 6 [24]|judge 6", 4, x -> x.copy(0, 6, 1, 1, 4));
        around("element 6 [23]|judge 6", 2, x -> x.copy(6, 6, 3, 2, 2));
        onlyAsks(0, x -> x.copy(0, 6, 0, 5, 0));
        onlyAsks(1, x -> x.set(7, 4, 97));
    }

    private static void promises5To8Shelves() {
        onlyAsks(90, x -> x.element(0, 4));
        onlyAsks(0, x -> x.element(2, 0));
        onlyAsks(0, x -> x.element(8, -1));
        onlyAsks(12, x -> x.holds(2));
        onlyAsks(2, x -> x.holds(0));
        onlyAsks(-1, x -> x.holds(8));
        around("holds 7|element 7 .|says 7 .|judge 7", 1, x -> x.show(7, 3));
        around("holds 7|element 7 .|says 7 .|judge 7|status 8", 1, x -> x.show(7, 11));
        around("holds 0|element 0 .|says 0 .|judge 0|status 8", 1, x -> x.show(0, -1));
        around("holds 5|says 5 .|judge 5|status 8", 1, x -> x.show(5, -1));
        around("holds 5|says 5 .", 1, x -> x.show(5, 6));
        onlyAsks(1, x -> x.show(5, 7));
        onlyAsks(297, x -> x.says(2, 0));
        onlyAsks(3, x -> x.says(2, 1));
        onlyAsks(500, x -> x.says(5, 5));
    }

    private static void promises9And10Things() {
        String oneMore = "status 0|day 3|thingOf 12 .|thinks . 12 .|laid .* 12|costs 12 .*|hall .*|rest -1";
        inHall(oneMore + "|loses . 3|rest 3", 12, x -> x.thing(3, 250, 132));
        inHall(oneMore + "|loses . 0|rest 0|who .*", 12, x -> x.thing(0, 999, 0));
        inHall(oneMore + "|loses . 4|rest 4|who .*", 1, x -> x.things(0, 4, 1));
        inHall(oneMore.replace("12", "1[2-4]") + "|loses . 5|rest 5|who .*", 3, x -> x.things(6, 5, 3));
        onlyAsks(0, x -> x.things(6, 5, 0));
    }

    private static void promises11And12Chips() {
        long[] want = {2, 800, 6, 640, 200, 0, 200};
        for (int what = 0; what <= 6; what++) {
            int asked = what;
            onlyAsks(want[what], x -> x.thingOf(10, asked));
        }
        inHall("thingOf 2 [23]|says 2 .|thinks . 2 .|loses . 3|hall .*|rest (-1|3)" + SALE, 1, x -> x.chip(2, 5));
        inHall("thingOf 10 [23]|thinks . 10 .|loses . 2|who .*", 1, x -> x.chip(10, 0));
        inHall("thingOf 0 2", 1, x -> x.chip(0, 6));
        inHall("thingOf 7 2", 1, x -> x.chip(7, 7));
        onlyAsks(0, x -> x.chip(2, 0));
    }

    private static void promises13And14Ladies() {
        inHall("status 1|goes 3|thinks 3 .*|loses 3 .|who .*", 3, x -> x.lady(5, 100));
        inHall("goes 2|thinks 2 .*|loses 2 .|who .*", -1, x -> x.goes(2, 0));
        inHall("goes 1|thinks 1 .*|loses 1 .|who .*", 1, x -> x.goes(1, -1));
        inHall("goes 0|thinks 0 .*|loses 0 .|who .*", 2, x -> x.goes(0, 1));
        onlyAsks(2, x -> x.goes(0, 2));
    }

    private static void promises15To18Tape() {
        around("status 7", 21, x -> x.feed(0x20202020, 4));
        around("status [27]" + LAW_OF_TAPE, 18, x -> x.feed(';', 1));
        around("status [27]" + LAW_OF_TAPE, 17, x -> x.wipe());
        String aLaw = "status [27]|lawOf 3 ." + LAW_OF_TAPE;
        both(aLaw, "status 7" + LAW_OF_TAPE, 3, x -> x.law());
        for (int what = 0; what <= 4; what++) {
            int asked = what;
            onlyAsks(new long[] {30, 150, 1, 0, 800}[what], x -> x.lawOf(2, asked));
        }
    }

    private static void promises19To21Prices() {
        onlyAsks(136, x -> x.thinks(0, 6, false));
        onlyAsks(320, x -> x.thinks(0, 6, true));
        inHall("thingOf 6 4|costs 6 .*" + SALE, 1, x -> x.price(0, 63));
        onlyAsks(0, x -> x.price(1, 59));
        inHall("thingOf 4 4|costs 4 .*" + SALE, 600, x -> x.mark(4, 77));
        inHall("thingOf 4 4|costs 4 .*" + SALE, 600, x -> x.mark(4, -1));
        inHall("thingOf 6 4|costs 6 .*" + SALE, -1, x -> x.mark(6, 0));
        onlyAsks(600, x -> x.mark(4, 600));
        onlyAsks(-1, x -> x.mark(6, -1));
    }

    private static void promises22To24Buyers() {
        inHall("status 3|buyerOf 4 .|takes 4 .*|takings .*|judge .|best", 4, x -> x.buyer(11, 9999, 63, 300));
        inHall("status 3|buyerOf 4 .|takes 4 .*|takings .*|judge 6|best", 4, x -> x.buyer(0, 9999, 63, 300));
        for (int what = 0; what <= 4; what++) {
            int asked = what;
            onlyAsks(new long[] {0, 1500, 6, 120, 2}[what], x -> x.buyerOf(0, asked));
        }
        inHall("turn 0|judge 6", 7, x -> x.turn(0, 8));
        inHall("turn 0|costs .* 0|takes .*|judge .", 7, x -> x.turn(0, 0));
        inHall("turn 1|costs .* 0|takes .*|judge .", 10, x -> x.turn(1, 0));
        inHall("turn 1|costs .* 11|takes .* 11|judge .", 10, x -> x.turn(1, 12));
        onlyAsks(7, x -> x.turn(0, 7));
        onlyAsks(10, x -> x.turn(1, 10));
    }

    private static void promises25To31Questions() {
        onlyAsks(75, x -> x.costs(3, 7));
        onlyAsks(-1, x -> x.costs(6, 7));
        onlyAsks(0, x -> x.takes(2, 11));
        onlyAsks(-1, x -> x.takes(0, 0));
        onlyAsks(1840, x -> x.takings(6, 6));
        onlyAsks(0, x -> x.judge(0));
        onlyAsks(-1, x -> x.judge(6));
        onlyAsks(1112, x -> x.best());
        onlyAsks(3713, x -> x.rest(-1));
        onlyAsks(1210, x -> x.rest(5));
        onlyAsks(3698, x -> x.loses(2, 63));
    }

    private static void promises32To34Day() {
        String hours = "day .|thingOf .* [56]|buyerOf . [14]|rest .*|hall .*|shortBy .*" + SALE;
        inHall(hours, 260, x -> x.go(1));
        inHall(hours, 860, x -> x.go(2));
        inHall(hours, 2480, x -> x.go(12));
        for (int what = 0; what <= 3; what++) {
            int asked = what;
            onlyAsks(new long[] {3, 1121, 4, 8}[what], x -> x.day(asked));
        }
        inHall("day [01]", 3, x -> x.morning());
    }

    private static void promises35To37Choices() {
        onlyAsks(409, x -> x.shown(30));
        inHall("status 4|who .*", 3, x -> x.table(8));
        for (int what = -1; what <= 2; what++) {
            int asked = what;
            onlyAsks(new long[] {1757, 1, 0, 2}[what + 1], x -> x.who(asked));
        }
    }

    private static void promises38To41Sightings() {
        inHall("status 5|same 6 .|same . 6|longest", 6, x -> x.sight(50, 255, 1, -1));
        inHall("status 5|same 6 .|same . 6|vases", 6, x -> x.sight(0, 128, 0, 0));
        onlyAsks(1, x -> x.same(0, 2));
        onlyAsks(0, x -> x.same(2, 0));
        onlyAsks(2, x -> x.vases());
        onlyAsks(5, x -> x.longest());
    }

    private static void promises42To46Secrets() {
        inHall("status 6|laid .* (6|11)", 4, x -> x.secret(6, 8));
        inHall("status 6|laid .*", 4, x -> x.secret(2, 0));
        inHall("looks 3|laid .*", 8, x -> x.looks(3, 9));
        inHall("looks 12", 4, x -> x.looks(12, 31));
        onlyAsks(4, x -> x.looks(2, 4));
        onlyAsks(2, x -> x.laid(1, 5));
        onlyAsks(-1, x -> x.laid(2, 6));
        onlyAsks(2050, x -> x.shortBy(511));
        onlyAsks(-1, x -> x.shortBy(9999));
        onlyAsks(2, x -> x.hall(2, 2));
        onlyAsks(-1, x -> x.hall(0, 5));
    }

    /** Changes some of all but the SHELVES; nothing is refused, and THE TAPE is fed again what was on it. */
    private static void changeAll(WhiteElephants x) {
        x.wipe();
        x.thing(2, 800, 6);
        x.chip(2, 3);
        x.lady(8, 222);
        Check.law(x, "most 80;known 3;strange 15");
        x.goes(1, -1);
        x.goes(0, 1);
        x.price(1, 63);
        x.mark(3, 7);
        x.mark(8, 9);
        x.buyer(0, 9999, 63, 300);
        x.turn(0, 3);
        x.turn(1, 4);
        x.table(63);
        x.sight(99, 255, -1, -1);
        x.secret(4, 0);
        x.looks(0, 31);
        x.looks(3, 5);
        x.morning();
        x.go(5);
        Check.feed(x, "known 51;most 761");
    }

    /** Behind an image nothing else is changed, and by back() all that can be told is told again. */
    private static void promise47Image() {
        String ofImage = "back|most of the last law|status .|thingOf .*|day .";
        for (Scene scene : List.of(kept, unkept)) {
            for (int part = 0; part < Told.LAST; part++) {
                WhiteElephants x = scene.made();
                int[] refusals = Check.refusals(x);
                c.due(x.image(), 1);
                c.same(longs(Check.refusals(x)), longs(refusals), "REFUSALS");
                differ(Told.byCalls(x, part), scene.told.get(part), NOTHING);
                WhiteElephants y = scene.made();
                y.image();
                changeAll(y);
                c.due(y.back(), 1);
                differ(Told.byCalls(y, part), scene.told.get(part), NOTHING);
            }
            WhiteElephants x = scene.made();
            c.due(x.image(), 1);
            c.holds(differ(Told.byCalls(x, Told.LAST), scene.told.get(Told.LAST), ofImage), "another image");
        }
    }

    private static long[] longs(int[] row) {
        long[] longs = new long[row.length];
        for (int i = 0; i < row.length; i++) {
            longs[i] = row[i];
        }
        return longs;
    }

    /** By back() the hall is as it was kept; SHELVES, THE TAPE and REFUSALS stay; and it is kept still. */
    private static void promise48Back() {
        Scene asKept = new Scene(x -> {
            Scenes.richHall(x);
            x.image();
            Scenes.richRound(x);
        });
        stays(kept, asKept, NOTHING, 1, x -> x.back());
        stays(back, asKept, NOTHING, 1, x -> x.back());
        stays(asKept, asKept, NOTHING, 1, x -> x.back());
        isToldAnew(x -> x.back());
        stays(kept, asKept, NOTHING, 1, x -> {
            x.back();
            changeAll(x);
            return x.back();
        });
    }

    private static void promise49Status() {
        long[] want = {12, 3, 3, 4, 3, 6, 4, 17, 8, -1, -1, -1, 2, 2, 1, 2, 1, -1};
        for (int what = 0; what < want.length; what++) {
            int asked = what;
            onlyAsks(want[what], x -> x.status(asked));
        }
        onlyAsks(-1, x -> x.status(-1));
    }
}
