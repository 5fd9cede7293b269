import java.util.Arrays;
import java.util.LinkedHashMap;
import java.util.Map;

/** All that can be asked of an object, in parts of some 300 calls at most; the last part can't be asked twice. */
final class Told {
    static final int PARTS = 11;
    /** The part that tells THE TAPE and what an image keeps. */
    static final int LAST = 10;
    private static final int MOST_CALLS = 300;

    private final WhiteElephants x;
    private final long[] answers = new long[MOST_CALLS];
    private final String[] calls = new String[MOST_CALLS];
    private int count = 0;
    private final int things;
    private final int ladies;
    private final int buyers;
    private final int sightings;

    private Told(WhiteElephants x) {
        this.x = x;
        things = x.status(0);
        ladies = x.status(1);
        buyers = x.status(3);
        sightings = x.status(5);
    }

    static long[] part(WhiteElephants x, int part) {
        Told told = new Told(x);
        told.ask(part);
        return Arrays.copyOf(told.answers, told.count);
    }

    /** The same answers by the calls that were made, as "thingOf 3 1". */
    static Map<String, Long> byCalls(WhiteElephants x, int part) {
        Told told = new Told(x);
        told.ask(part);
        Map<String, Long> byCalls = new LinkedHashMap<>();
        for (int i = 0; i < told.count; i++) {
            byCalls.put(told.calls[i], told.answers[i]);
        }
        return byCalls;
    }

    private void ask(int part) {
        switch (part) {
            case 0:
                shelves(0, 2);
                break;
            case 1:
                shelves(3, 5);
                break;
            case 2:
                shelves(6, 7);
                break;
            case 3:
                things();
                break;
            case 4:
                ladiesLawsBuyers();
                break;
            case 5:
                sightings(0);
                break;
            case 6:
                sightings(10);
                break;
            case 7:
                secretsAndTables();
                break;
            case 8:
                choices();
                break;
            case 9:
                toldByAChange();
                break;
            default:
                tapeAndImage();
        }
    }

    private void add(long answer, String call, int... arguments) {
        StringBuilder told = new StringBuilder(call);
        for (int argument : arguments) {
            told.append(' ').append(argument);
        }
        answers[count] = answer;
        calls[count] = told.toString();
        count++;
    }

    private void counts() {
        for (int what = 0; what <= 8; what++) {
            add(x.status(what), "status", what);
        }
    }

    private void shelves(int from, int to) {
        counts();
        for (int s = from; s <= to; s++) {
            add(x.holds(s), "holds", s);
            for (int i = 0; i < 40; i++) {
                add(x.element(s, i), "element", s, i);
            }
            for (int kind = 0; kind < 6; kind++) {
                add(x.says(s, kind), "says", s, kind);
            }
        }
    }

    private void things() {
        counts();
        for (int t = 0; t < things; t++) {
            for (int what = 0; what <= 6; what++) {
                add(x.thingOf(t, what), "thingOf", t, what);
            }
        }
        for (int what = 0; what <= 3; what++) {
            add(x.day(what), "day", what);
        }
    }

    private void ladiesLawsBuyers() {
        for (int buyer = 0; buyer < buyers; buyer++) {
            for (int what = 0; what <= 4; what++) {
                add(x.buyerOf(buyer, what), "buyerOf", buyer, what);
            }
        }
        for (int lady = 0; lady < ladies; lady++) {
            for (int t = 0; t < things; t += things > 15 ? 3 : 1) {
                add(x.thinks(lady, t, false), "thinks", lady, t, 0);
                add(x.thinks(lady, t, true), "thinks", lady, t, 1);
            }
        }
        for (int law = 0; law < x.status(2); law++) {
            for (int what = 0; what <= 4; what++) {
                add(x.lawOf(law, what), "lawOf", law, what);
            }
        }
    }

    private void sightings(int from) {
        for (int i = from; i < Math.min(from + 10, sightings); i++) {
            for (int later = 0; later < sightings; later++) {
                add(x.same(i, later), "same", i, later);
            }
        }
        add(x.vases(), "vases");
        add(x.longest(), "longest");
    }

    private void secretsAndTables() {
        for (int t = 0; t < things; t++) {
            add(x.laid(1, t), "laid", 1, t);
            add(x.laid(2, t), "laid", 2, t);
            add(x.laid(10, t), "laid", 10, t);
        }
        for (int table = -1; table < x.status(4); table++) {
            add(x.who(table), "who", table);
        }
        for (int lady = 0; lady < ladies; lady++) {
            for (int kind = 0; kind < 6; kind++) {
                add(x.loses(lady, 1 << kind), "loses", lady, kind);
            }
        }
    }

    private void choices() {
        for (int t = 0; t < things; t++) {
            add(x.hall(t % 3, t), "hall", t);
            add(x.costs(t, 0), "costs", t, 0);
            add(x.costs(t, 11), "costs", t, 11);
        }
        for (int buyer = 0; buyer < buyers; buyer++) {
            add(x.takes(buyer, 0), "takes", buyer, 0);
            add(x.takes(buyer, 5), "takes", buyer, 5);
            add(x.takes(buyer, 11), "takes", buyer, 11);
        }
        for (int kind = -1; kind < 6; kind++) {
            add(x.rest(kind), "rest", kind);
        }
        for (int i = 0; i <= 12; i++) {
            add(x.takings(i, 12 - i), "takings", i);
            add(x.shown(3 * i), "shown", 3 * i);
            add(x.shortBy(100 * i + 11), "shortBy", 100 * i + 11);
        }
        for (int s = 0; s < 8; s++) {
            add(x.judge(s), "judge", s);
        }
        add(x.best(), "best");
    }

    /** What is told only as it is changed, and is changed back at once. */
    private void toldByAChange() {
        for (int lady = 0; lady < ladies; lady++) {
            int law = x.goes(lady, -1);
            x.goes(lady, law);
            add(law, "goes", lady);
        }
        for (int what = 0; what <= 1; what++) {
            int hour = x.turn(what, 0);
            x.turn(what, hour);
            add(hour, "turn", what);
        }
        for (int person = 0; person < 16; person++) {
            int tables = x.looks(person, 0);
            x.looks(person, tables);
            add(tables, "looks", person);
        }
    }

    /** What THE TAPE tells as a LAW, then what was kept, then THE TAPE as a LAW of what was kept. */
    private void tapeAndImage() {
        add(x.law(), "law");
        add(x.status(7), "size behind law");
        add(x.lawOf(x.status(2) - 1, 0), "known of that law");
        add(x.lawOf(x.status(2) - 1, 4), "most of that law");
        add(x.back(), "back");
        add(x.law(), "law behind back");
        add(x.lawOf(x.status(2) - 1, 4), "most of the last law behind back");
        for (int what = 0; what <= 8; what++) {
            add(x.status(what), "status behind back", what);
        }
        int kept = x.status(0);
        for (int t = 0; t < kept; t++) {
            for (int what = 2; what <= 6; what++) {
                add(x.thingOf(t, what), "thingOf behind back", t, what);
            }
        }
        for (int what = 0; what <= 3; what++) {
            add(x.day(what), "day behind back", what);
        }
    }
}
