import java.util.Arrays;

/** All that can be asked of an object, in parts of some 300 calls at most; the last part can't be asked twice. */
final class Told {
    static final int PARTS = 9;
    private static final int MOST_CALLS = 300;

    private final WhiteElephants x;
    private final long[] answers = new long[MOST_CALLS];
    private int count = 0;
    private final int things;
    private final int ladies;
    private final int buyers;
    private final int sightings;

    private Told(WhiteElephants x) {
        this.x = x;
        things = x.status(0);
        ladies = x.status(1);
        buyers = x.status(3);
        sightings = x.status(5);
    }

    static long[] part(WhiteElephants x, int part) {
        Told told = new Told(x);
        switch (part) {
            case 0:
                told.shelves(0);
                break;
            case 1:
                told.shelves(4);
                break;
            case 2:
                told.things();
                break;
            case 3:
                told.ladiesLawsBuyers();
                break;
            case 4:
                told.sightings(0);
                break;
            case 5:
                told.sightings(10);
                break;
            case 6:
                told.secretsAndTables();
                break;
            case 7:
                told.choices();
                break;
            default:
                told.tapeAndImage();
        }
        return Arrays.copyOf(told.answers, told.count);
    }

    private void add(long answer) {
        answers[count] = answer;
        count++;
    }

    private void counts() {
        for (int what = 0; what <= 8; what++) {
            add(x.status(what));
        }
    }

    private void shelves(int from) {
        counts();
        for (int s = from; s < from + 4; s++) {
            add(x.holds(s));
            for (int i = 0; i < 40; i++) {
                add(x.element(s, i));
            }
            for (int kind = 0; kind < 6; kind++) {
                add(x.says(s, kind));
            }
        }
    }

    private void things() {
        counts();
        for (int t = 0; t < things; t++) {
            for (int what = 0; what <= 6; what++) {
                add(x.thingOf(t, what));
            }
        }
        for (int what = 0; what <= 3; what++) {
            add(x.day(what));
        }
    }

    private void ladiesLawsBuyers() {
        for (int lady = 0; lady < ladies; lady++) {
            for (int t = 0; t < things; t += 3) {
                add(x.thinks(lady, t, false));
                add(x.thinks(lady, t, true));
            }
            int law = x.goes(lady, -1);
            x.goes(lady, law);
            add(law);
        }
        for (int law = 0; law < x.status(2); law++) {
            for (int what = 0; what <= 4; what++) {
                add(x.lawOf(law, what));
            }
        }
        for (int buyer = 0; buyer < buyers; buyer++) {
            for (int what = 0; what <= 4; what++) {
                add(x.buyerOf(buyer, what));
            }
        }
        for (int what = 0; what <= 1; what++) {
            int hour = x.turn(what, 0);
            x.turn(what, hour);
            add(hour);
        }
    }

    private void sightings(int from) {
        for (int i = from; i < Math.min(from + 10, sightings); i++) {
            for (int later = 0; later < sightings; later++) {
                add(x.same(i, later));
            }
        }
        add(x.vases());
        add(x.longest());
    }

    private void secretsAndTables() {
        for (int person = 0; person < 16; person++) {
            int tables = x.looks(person, 0);
            x.looks(person, tables);
            add(tables);
        }
        for (int t = 0; t < things; t++) {
            add(x.laid(1, t));
            add(x.laid(2, t));
            add(x.laid(10, t));
        }
        for (int table = -1; table < x.status(4); table++) {
            add(x.who(table));
        }
        for (int lady = 0; lady < ladies; lady++) {
            for (int kind = 0; kind < 6; kind++) {
                add(x.loses(lady, 1 << kind));
            }
        }
    }

    private void choices() {
        for (int t = 0; t < things; t++) {
            add(x.hall(t % 3, t));
            add(x.costs(t, 0));
            add(x.costs(t, 11));
        }
        for (int buyer = 0; buyer < buyers; buyer++) {
            add(x.takes(buyer, 0));
            add(x.takes(buyer, 11));
        }
        for (int kind = -1; kind < 6; kind++) {
            add(x.rest(kind));
        }
        for (int i = 0; i <= 12; i++) {
            add(x.takings(i, 12 - i));
            add(x.shown(3 * i));
            add(x.shortBy(10 * i + 10));
        }
        for (int s = 0; s < 8; s++) {
            add(x.judge(s));
        }
        add(x.best());
    }

    /** What THE TAPE tells as a LAW, then what was kept, then THE TAPE as a LAW of what was kept. */
    private void tapeAndImage() {
        add(x.law());
        add(x.status(7));
        add(x.lawOf(x.status(2) - 1, 4));
        add(x.back());
        add(x.law());
        add(x.lawOf(x.status(2) - 1, 4));
        counts();
        int kept = x.status(0);
        for (int t = 0; t < kept; t++) {
            for (int what = 2; what <= 6; what++) {
                add(x.thingOf(t, what));
            }
        }
        for (int what = 0; what <= 3; what++) {
            add(x.day(what));
        }
    }
}
