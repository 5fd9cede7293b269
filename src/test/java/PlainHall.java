import java.util.ArrayList;
import java.util.Arrays;
import java.util.Comparator;
import java.util.HashMap;
import java.util.List;
import java.util.Map;
import java.util.regex.Matcher;
import java.util.regex.Pattern;

/**
 * The document read once more, as plainly as can be and with other means than the class: lists, maps, patterns,
 * and all ways tried one by one. RunsTest compares the two.
 */
public final class PlainHall {
    private static final int[] PARENT = {-1, 0, 1, 2, 0, 0};
    private static final List<String> PARTS = List.of("known", "strange", "round", "least", "most");
    private static final int[] PART_LEAST = {0, 0, 1, 0, 0};
    private static final int[] PART_MOST = {200, 200, 50, 999, 999};
    private static final Pattern TOKEN = Pattern.compile(" *(?:([a-z]+)|([0-9]+)|(;)|(\\z)|(.))", Pattern.DOTALL);

    private static final class Thing implements Cloneable {
        int kind;
        int worth;
        int chips;
        int price = -1;
        int buyer = -1;
        int paid = -1;

        boolean hasChip(int chip) {
            return (chips & (1 << chip)) != 0;
        }

        boolean under(int wanted) {
            for (int k = kind; k >= 0; k = PARENT[k]) {
                if (k == wanted) {
                    return true;
                }
            }
            return false;
        }

        int truth() {
            if (kind == 4) {
                return worth > 200 ? 200 : worth;
            }
            int truth = worth;
            if (under(1)) {
                for (int chip = 0; chip < 8; chip++) {
                    truth -= hasChip(chip) ? worth / 10 : 0;
                }
                truth = Math.max(truth, 0);
            }
            if (under(2) && hasChip(0)) {
                truth = truth / 2;
            }
            if (under(3) && !hasChip(7)) {
                truth += 50;
            }
            return truth;
        }

        boolean left() {
            return buyer < 0;
        }

        boolean offered() {
            return price >= 0 && left();
        }

        boolean in(int kinds) {
            return (kinds & (1 << kind)) != 0;
        }

        Thing twin() {
            Thing t = new Thing();
            t.kind = kind;
            t.worth = worth;
            t.chips = chips;
            t.price = price;
            t.buyer = buyer;
            t.paid = paid;
            return t;
        }
    }

    /** All that an image keeps; LADIES, BUYERS and so on are rows of numbers. */
    private static final class All {
        List<Thing> things = new ArrayList<>();
        List<int[]> ladies = new ArrayList<>();
        List<int[]> laws = new ArrayList<>();
        List<int[]> buyers = new ArrayList<>();
        List<Integer> tables = new ArrayList<>();
        List<int[]> sightings = new ArrayList<>();
        List<int[]> secrets = new ArrayList<>();
        int[] looks = new int[16];
        int[] turns = {12, 12};
        int hour = 0;
        int taken = 0;

        All twin() {
            All all = new All();
            things.forEach(t -> all.things.add(t.twin()));
            ladies.forEach(l -> all.ladies.add(l.clone()));
            laws.forEach(l -> all.laws.add(l.clone()));
            buyers.forEach(b -> all.buyers.add(b.clone()));
            sightings.forEach(s -> all.sightings.add(s.clone()));
            secrets.forEach(s -> all.secrets.add(s.clone()));
            all.tables.addAll(tables);
            all.looks = looks.clone();
            all.turns = turns.clone();
            all.hour = hour;
            all.taken = taken;
            return all;
        }
    }

    private final int[] sorts = new int[8];
    private final Object[] shelves = new Object[8];
    private final int[] refusals = new int[5];
    private StringBuilder tape = new StringBuilder();
    private All all = new All();
    private All image = null;

    private int no(int refusal) {
        refusals[-2 - refusal]++;
        return refusal;
    }

    private static boolean in(int v, int least, int most) {
        return least <= v && v <= most;
    }

    private static boolean is(int i, List<?> list) {
        return in(i, 0, list.size() - 1);
    }

    private Thing t(int thing) {
        return all.things.get(thing);
    }

    // ---- SHELVES: null, a long[] or an Integer, the number of a THING

    public int row(int s, int sort, int n) {
        if (!in(s, 0, 7) || !in(sort, 0, 4) || !in(n, 0, 40)) {
            return no(-2);
        }
        shelves[s] = new long[n];
        sorts[s] = sort;
        return 1;
    }

    private int wantRow(int s) {
        if (!in(s, 0, 7)) {
            return -2;
        }
        if (shelves[s] instanceof Integer) {
            return -3;
        }
        return shelves[s] == null ? -4 : 0;
    }

    public int set(int s, int i, long v) {
        if (wantRow(s) != 0) {
            return no(wantRow(s));
        }
        long[] row = (long[]) shelves[s];
        if (!in(i, 0, row.length - 1)) {
            return no(-2);
        }
        int bits = new int[] {8, 16, 32, 64, 1}[sorts[s]];
        row[i] = sorts[s] == 4 ? (v == 0 ? 0 : 1) : v << (64 - bits) >> (64 - bits);
        return 1;
    }

    public int copy(int p, int q, int i, int j, int n) {
        if (!in(p, 0, 7) || !in(q, 0, 7)) {
            return no(-2);
        }
        if (shelves[p] instanceof Integer || shelves[q] instanceof Integer) {
            return no(-3);
        }
        if (shelves[p] != null && shelves[q] != null && sorts[p] != sorts[q]) {
            return no(-3);
        }
        if (shelves[p] == null || shelves[q] == null) {
            return no(-4);
        }
        long[] from = ((long[]) shelves[p]).clone();
        long[] to = (long[]) shelves[q];
        if (i < 0 || j < 0 || n < 0 || (long) i + n > from.length || (long) j + n > to.length) {
            return no(-2);
        }
        for (int k = 0; k < n; k++) {
            to[j + k] = from[i + k];
        }
        return n;
    }

    public long element(int s, int i) {
        if (wantRow(s) != 0) {
            return 0;
        }
        long[] row = (long[]) shelves[s];
        return in(i, 0, row.length - 1) ? row[i] : 0;
    }

    public int holds(int s) {
        if (!in(s, 0, 7) || shelves[s] == null) {
            return -1;
        }
        return shelves[s] instanceof Integer ? 10 + (Integer) shelves[s] : sorts[s];
    }

    public int show(int s, int thing) {
        if (!in(s, 0, 7) || (thing != -1 && !is(thing, all.things))) {
            return no(-2);
        }
        shelves[s] = thing == -1 ? null : Integer.valueOf(thing);
        return 1;
    }

    public int says(int s, int kind) {
        if (!in(s, 0, 7) || !in(kind, 0, 5)) {
            return no(-2);
        }
        if (shelves[s] instanceof long[]) {
            return no(-3);
        }
        if (shelves[s] == null) {
            return no(-4);
        }
        Thing thing = t((Integer) shelves[s]);
        if (!thing.under(kind)) {
            return no(-3);
        }
        int[] said = {thing.truth(), Integer.bitCount(thing.chips), thing.chips % 2, thing.chips < 128 ? 50 : 0,
            Math.max(thing.worth - 200, 0), thing.worth};
        return said[kind];
    }

    // ---- THINGS

    public int thing(int kind, int worth, int chips) {
        if (!in(kind, 0, 5) || !in(worth, 0, 999) || !in(chips, 0, 255)) {
            return no(-2);
        }
        if (all.things.size() == 30) {
            return no(-6);
        }
        Thing thing = new Thing();
        thing.kind = kind;
        thing.worth = worth;
        thing.chips = chips;
        all.things.add(thing);
        return all.things.size() - 1;
    }

    public int things(int s, int kind, int n) {
        if (!in(s, 0, 7) || !in(kind, 0, 5)) {
            return no(-2);
        }
        if (wantRow(s) != 0) {
            return no(wantRow(s));
        }
        long[] row = (long[]) shelves[s];
        if (!in(n, 0, row.length)) {
            return no(-2);
        }
        int came = 0;
        while (came < n && row[came] >= 0 && row[came] <= 999 && all.things.size() < 30) {
            thing(kind, (int) row[came], 0);
            came++;
        }
        return came;
    }

    public int thingOf(int thing, int what) {
        if (!is(thing, all.things) || !in(what, 0, 6)) {
            return no(-2);
        }
        Thing t = t(thing);
        return new int[] {t.kind, t.worth, t.chips, t.truth(), t.price, t.buyer, t.paid}[what];
    }

    public int chip(int thing, int chip) {
        if (!is(thing, all.things) || !in(chip, 0, 7)) {
            return no(-2);
        }
        boolean was = t(thing).hasChip(chip);
        t(thing).chips |= 1 << chip;
        return was ? 0 : 1;
    }

    // ---- LADIES: knows, guess, law

    public int lady(int knows, int guess) {
        if (!in(knows, 0, 63) || !in(guess, 0, 999)) {
            return no(-2);
        }
        return add(all.ladies, 5, knows, guess, -1);
    }

    private int add(List<int[]> list, int most, int... row) {
        if (list.size() == most) {
            return no(-6);
        }
        list.add(row);
        return list.size() - 1;
    }

    public int goes(int lady, int law) {
        if (!is(lady, all.ladies) || (law != -1 && !is(law, all.laws))) {
            return no(-2);
        }
        int was = all.ladies.get(lady)[2];
        all.ladies.get(lady)[2] = law;
        return was;
    }

    public int feed(int v, int n) {
        if (!in(n, 1, 4)) {
            return no(-2);
        }
        if (tape.length() + n > 120) {
            return no(-6);
        }
        String four = "" + (char) (v >>> 24) + (char) (v >>> 16 & 255) + (char) (v >>> 8 & 255) + (char) (v & 255);
        tape.append(four.substring(4 - n));
        return tape.length();
    }

    public int wipe() {
        int was = tape.length();
        tape = new StringBuilder();
        return was;
    }

    public int law() {
        if (all.laws.size() == 6) {
            return no(-6);
        }
        String text = tape.toString();
        wipe();
        int[] law = {100, 50, 1, 0, 999};
        Matcher m = TOKEN.matcher(text);
        int at = 0;
        int part = -1;
        // 0 a WORD is due, 1 a NUMBER, 2 the SIGN or the end
        for (int due = 0; ; due = (due + 1) % 3) {
            m.region(at, text.length());
            if (!m.lookingAt()) {
                throw new IllegalStateException(text);
            }
            at = m.end();
            if (m.group(4) != null) {
                if (due == 2) {
                    all.laws.add(law);
                    return all.laws.size() - 1;
                }
                no(-2);
                return -20 - text.length();
            }
            int group = due + 1;
            boolean stands = m.group(group) != null;
            if (stands && due == 0) {
                part = PARTS.indexOf(m.group(1));
                stands = part >= 0;
            }
            if (stands && due == 1) {
                String digits = m.group(2);
                stands = digits.length() <= 3 && in(Integer.parseInt(digits), PART_LEAST[part], PART_MOST[part]);
                if (stands) {
                    law[part] = Integer.parseInt(digits);
                }
            }
            if (!stands) {
                no(-2);
                int place = at;
                for (int g = 1; g <= 5; g++) {
                    place = m.group(g) != null ? m.start(g) : place;
                }
                return -20 - place;
            }
        }
    }

    public int lawOf(int law, int what) {
        return is(law, all.laws) && in(what, 0, 4) ? all.laws.get(law)[what] : no(-2);
    }

    private int priceBy(int[] lady, Thing thing) {
        int[] law = lady[2] < 0 ? new int[] {100, 50, 1, 0, 999} : all.laws.get(lady[2]);
        int pence = thing.in(lady[0]) ? thing.truth() * law[0] / 100 : lady[1] * law[1] / 100;
        pence = pence / law[2] * law[2];
        if (pence < law[3]) {
            pence = law[3];
        }
        return pence > law[4] ? law[4] : pence;
    }

    private int lost(int[] lady, int kinds) {
        return all.things.stream().filter(t -> t.in(kinds)).mapToInt(t -> Math.max(0, t.truth() - priceBy(lady, t)))
            .sum();
    }

    public int thinks(int lady, int thing, boolean lost) {
        if (!is(lady, all.ladies) || !is(thing, all.things)) {
            return no(-2);
        }
        int price = priceBy(all.ladies.get(lady), t(thing));
        return lost ? Math.max(0, t(thing).truth() - price) : price;
    }

    public int price(int lady, int kinds) {
        if (!is(lady, all.ladies) || !in(kinds, 0, 63)) {
            return no(-2);
        }
        int priced = 0;
        for (Thing thing : all.things) {
            if (thing.in(kinds) && thing.price < 0) {
                thing.price = priceBy(all.ladies.get(lady), thing);
                priced++;
            }
        }
        return priced;
    }

    public int mark(int thing, int v) {
        if (!is(thing, all.things) || !in(v, -1, 999)) {
            return no(-2);
        }
        if (!t(thing).left()) {
            return no(-5);
        }
        int was = t(thing).price;
        t(thing).price = v;
        return was;
    }

    public int loses(int lady, int kinds) {
        return is(lady, all.ladies) && in(kinds, 0, 63) ? lost(all.ladies.get(lady), kinds) : no(-2);
    }

    // ---- BUYERS: hour, purse, wishes, eye, bought

    public int buyer(int hour, int purse, int wishes, int eye) {
        if (!in(hour, 0, 11) || !in(purse, 0, 9999) || !in(wishes, 0, 63) || !in(eye, 0, 300)) {
            return no(-2);
        }
        return add(all.buyers, 12, hour, purse, wishes, eye, 0);
    }

    public int buyerOf(int buyer, int what) {
        return is(buyer, all.buyers) && in(what, 0, 4) ? all.buyers.get(buyer)[what] : no(-2);
    }

    public int turn(int what, int hour) {
        if (!in(what, 0, 1) || !in(hour, 0, 12)) {
            return no(-2);
        }
        int was = all.turns[what];
        all.turns[what] = hour;
        return was;
    }

    private static int cost(All a, Thing thing, int hour) {
        int cost = hour >= a.turns[0] ? thing.price / 2 : thing.price;
        return hour >= a.turns[1] ? 10 : cost;
    }

    private static int taken(All a, int buyer, int hour) {
        int[] b = a.buyers.get(buyer);
        int best = -1;
        int gained = -1;
        for (int i = 0; i < a.things.size() && b[0] <= hour; i++) {
            Thing thing = a.things.get(i);
            int gain = thing.truth() * b[3] / 100 - cost(a, thing, hour);
            if (thing.offered() && thing.in(b[2]) && cost(a, thing, hour) <= b[1] && gain > gained) {
                best = i;
                gained = gain;
            }
        }
        return best;
    }

    private static int hourOf(All a, int hour) {
        int sum = 0;
        for (int b = 0; b < a.buyers.size(); b++) {
            int i = taken(a, b, hour);
            if (i >= 0) {
                Thing thing = a.things.get(i);
                thing.buyer = b;
                thing.paid = cost(a, thing, hour);
                a.buyers.get(b)[1] -= thing.paid;
                a.buyers.get(b)[4]++;
                sum += thing.paid;
            }
        }
        return sum;
    }

    private static int[] wholeDay(All from, int half, int bag) {
        All a = from.twin();
        a.turns = new int[] {half, bag};
        int[] sums = new int[13];
        for (int hour = 0; hour < 12; hour++) {
            sums[hour] = hourOf(a, hour);
            sums[12] += sums[hour];
        }
        return sums;
    }

    public int costs(int thing, int hour) {
        if (!is(thing, all.things) || !in(hour, 0, 11)) {
            return no(-2);
        }
        return t(thing).price < 0 ? -1 : cost(all, t(thing), hour);
    }

    public int takes(int buyer, int hour) {
        return is(buyer, all.buyers) && in(hour, 0, 11) ? taken(all, buyer, hour) : no(-2);
    }

    public int takings(int half, int bag) {
        return in(half, 0, 12) && in(bag, 0, 12) ? wholeDay(all, half, bag)[12] : no(-2);
    }

    public int best() {
        int most = 0;
        int best = 0;
        for (int half = 0; half <= 12; half++) {
            for (int bag = half; bag <= 12; bag++) {
                int sum = wholeDay(all, half, bag)[12];
                if (sum >= most) {
                    most = sum;
                    best = 100 * half + bag;
                }
            }
        }
        return best;
    }

    public int judge(int s) {
        if (wantRow(s) != 0) {
            return no(wantRow(s));
        }
        int[] sums = wholeDay(all, all.turns[0], all.turns[1]);
        for (int hour = 0; hour < 12; hour++) {
            if (element(s, hour) != sums[hour]) {
                return hour;
            }
        }
        return -1;
    }

    public int rest(int kind) {
        if (!in(kind, -1, 5)) {
            return no(-2);
        }
        return all.things.stream().filter(t -> t.left() && (kind < 0 || t.kind == kind)).mapToInt(Thing::truth).sum();
    }

    public int go(int n) {
        if (!in(n, 1, 12)) {
            return no(-2);
        }
        if (all.hour == 12) {
            return no(-5);
        }
        int sum = 0;
        for (int i = 0; i < n && all.hour < 12; i++) {
            sum += hourOf(all, all.hour);
            all.hour++;
        }
        all.taken += sum;
        return sum;
    }

    public int day(int what) {
        if (!in(what, 0, 3)) {
            return no(-2);
        }
        int left = (int) all.things.stream().filter(Thing::left).count();
        return new int[] {all.hour, all.taken, all.things.size() - left, left}[what];
    }

    public int morning() {
        int was = all.hour;
        all.hour = 0;
        all.taken = 0;
        return was;
    }

    // ---- choices: the best value is looked up by all ways, then the set is told from its highest bit down

    private int bestGain(List<Integer> offered, int count, int minutes, Map<Integer, Integer> known) {
        if (count == 0) {
            return 0;
        }
        int key = count * 1000 + minutes;
        if (!known.containsKey(key)) {
            Thing thing = t(offered.get(count - 1));
            int best = bestGain(offered, count - 1, minutes, known);
            if (2 + thing.kind <= minutes) {
                int gain = Math.max(0, thing.truth() - thing.price);
                best = Math.max(best, gain + bestGain(offered, count - 1, minutes - 2 - thing.kind, known));
            }
            known.put(key, best);
        }
        return known.get(key);
    }

    public int shown(int minutes) {
        if (!in(minutes, 0, 200)) {
            return no(-2);
        }
        List<Integer> offered = numbers(Thing::offered);
        Map<Integer, Integer> known = new HashMap<>();
        int set = 0;
        int left = minutes;
        for (int count = offered.size(); count > 0; count--) {
            if (bestGain(offered, count, left, known) != bestGain(offered, count - 1, left, known)) {
                set |= 1 << offered.get(count - 1);
                left -= 2 + t(offered.get(count - 1)).kind;
            }
        }
        return set;
    }

    private List<Integer> numbers(java.util.function.Predicate<Thing> wanted) {
        List<Integer> numbers = new ArrayList<>();
        for (int i = 0; i < all.things.size(); i++) {
            if (wanted.test(t(i))) {
                numbers.add(i);
            }
        }
        return numbers;
    }

    private int fewest(List<Integer> sold, int count, int sum, Map<Integer, Integer> known) {
        if (sum == 0) {
            return 0;
        }
        if (count == 0 || sum < 0) {
            return 1000;
        }
        int key = count * 10000 + sum;
        if (!known.containsKey(key)) {
            known.put(key, Math.min(fewest(sold, count - 1, sum, known),
                1 + fewest(sold, count - 1, sum - t(sold.get(count - 1)).paid, known)));
        }
        return known.get(key);
    }

    public int shortBy(int sum) {
        if (!in(sum, 1, 9999)) {
            return no(-2);
        }
        List<Integer> sold = numbers(t -> !t.left());
        Map<Integer, Integer> known = new HashMap<>();
        if (fewest(sold, sold.size(), sum, known) >= 1000) {
            return -1;
        }
        int set = 0;
        int left = sum;
        for (int count = sold.size(); count > 0; count--) {
            if (fewest(sold, count, left, known) != fewest(sold, count - 1, left, known)) {
                set |= 1 << sold.get(count - 1);
                left -= t(sold.get(count - 1)).paid;
            }
        }
        return set;
    }

    public int table(int kinds) {
        if (!in(kinds, 0, 63)) {
            return no(-2);
        }
        if (all.tables.size() == 5) {
            return no(-6);
        }
        all.tables.add(kinds);
        return all.tables.size() - 1;
    }

    /** Tries all rows of LADIES in their order; best holds the sum, then the LADIES. */
    private void tryLadies(int[] row, int table, int[][] losses, int[] best) {
        if (table == row.length) {
            int sum = 0;
            for (int i = 0; i < row.length; i++) {
                sum += losses[row[i]][i];
            }
            if (best[0] < 0 || sum < best[0]) {
                best[0] = sum;
                System.arraycopy(row, 0, best, 1, row.length);
            }
            return;
        }
        for (int lady = 0; lady < all.ladies.size(); lady++) {
            int l = lady;
            if (Arrays.stream(row, 0, table).noneMatch(other -> other == l)) {
                row[table] = lady;
                tryLadies(row, table + 1, losses, best);
            }
        }
    }

    public int who(int what) {
        int n = all.tables.size();
        if (!in(what, -1, n - 1)) {
            return no(-2);
        }
        if (n > all.ladies.size()) {
            return no(-5);
        }
        int[][] losses = new int[all.ladies.size()][n];
        for (int l = 0; l < losses.length; l++) {
            for (int i = 0; i < n; i++) {
                losses[l][i] = lost(all.ladies.get(l), all.tables.get(i));
            }
        }
        int[] best = new int[n + 1];
        best[0] = -1;
        tryLadies(new int[n], 0, losses, best);
        return best[what + 1];
    }

    // ---- SIGHTINGS: year, chips, gave, bought

    public int sight(int year, int chips, int gave, int bought) {
        if (!in(year, 0, 99) || !in(chips, 0, 255) || !in(gave, -1, 15) || !in(bought, -1, 15)) {
            return no(-2);
        }
        return add(all.sightings, 20, year, chips, gave, bought);
    }

    private static boolean mayBe(int[] one, int[] later) {
        return one[0] < later[0] && (one[1] | later[1]) == later[1]
            && (one[3] == later[2] || one[3] < 0 || later[2] < 0);
    }

    public int same(int sighting, int later) {
        if (!is(sighting, all.sightings) || !is(later, all.sightings)) {
            return no(-2);
        }
        return mayBe(all.sightings.get(sighting), all.sightings.get(later)) ? 1 : 0;
    }

    private List<int[]> byYears() {
        List<int[]> sorted = new ArrayList<>(all.sightings);
        sorted.sort(Comparator.comparingInt(s -> s[0]));
        return sorted;
    }

    public int vases() {
        List<int[]> sorted = byYears();
        // by the SIGHTINGS that are a VASE's last so far: the fewest VASES
        Map<Integer, Integer> states = Map.of(0, 0);
        for (int i = 0; i < sorted.size(); i++) {
            Map<Integer, Integer> next = new HashMap<>();
            for (Map.Entry<Integer, Integer> state : states.entrySet()) {
                next.merge(state.getKey() | 1 << i, state.getValue() + 1, Math::min);
                for (int j = 0; j < i; j++) {
                    if ((state.getKey() & 1 << j) != 0 && mayBe(sorted.get(j), sorted.get(i))) {
                        next.merge(state.getKey() ^ 1 << j | 1 << i, state.getValue(), Math::min);
                    }
                }
            }
            states = next;
        }
        return states.values().stream().mapToInt(v -> v).min().getAsInt();
    }

    public int longest() {
        List<int[]> sorted = byYears();
        int[] lengths = new int[sorted.size()];
        for (int i = 0; i < lengths.length; i++) {
            for (int j = 0; j < i; j++) {
                if (mayBe(sorted.get(j), sorted.get(i))) {
                    lengths[i] = Math.max(lengths[i], lengths[j]);
                }
            }
            lengths[i]++;
        }
        return Arrays.stream(lengths).max().orElse(0);
    }

    // ---- SECRETS: thing, person

    public int secret(int thing, int person) {
        if (!is(thing, all.things) || !in(person, 0, 15)) {
            return no(-2);
        }
        return add(all.secrets, 10, thing, person);
    }

    public int looks(int person, int tables) {
        if (!in(person, 0, 15) || !in(tables, 0, 31)) {
            return no(-2);
        }
        int was = all.looks[person];
        all.looks[person] = tables;
        return was;
    }

    private boolean lay(List<Integer> hidden, int[] tables, int next, int room) {
        if (next == tables.length) {
            return true;
        }
        for (int table = 0; table < 5; table++) {
            int at = table;
            boolean seen = all.secrets.stream()
                .anyMatch(s -> s[0] == hidden.get(next) && (all.looks[s[1]] & 1 << at) != 0);
            if (!seen && Arrays.stream(tables, 0, next).filter(other -> other == at).count() < room) {
                tables[next] = table;
                if (lay(hidden, tables, next + 1, room)) {
                    return true;
                }
            }
        }
        return false;
    }

    public int laid(int room, int thing) {
        if (!in(room, 1, 10) || !is(thing, all.things)) {
            return no(-2);
        }
        List<Integer> hidden = all.secrets.stream().map(s -> s[0]).distinct().sorted().toList();
        int[] tables = new int[hidden.size()];
        if (!lay(hidden, tables, 0, room)) {
            return no(-5);
        }
        int place = hidden.indexOf(thing);
        return place < 0 ? -1 : tables[place];
    }

    public int hall(int first, int thing) {
        if (!in(first, 0, 2) || !is(thing, all.things)) {
            return no(-2);
        }
        List<Integer> left = numbers(Thing::left);
        left.sort(Comparator.<Integer>comparingInt(i -> -t(i).truth()).thenComparingInt(i -> -i));
        int turn = first;
        while (left.contains(thing)) {
            int liked = turn == 1 ? 48 : turn == 2 ? 14 : 63;
            Integer taken = left.stream().filter(i -> t(i).in(liked)).findFirst().orElse(left.get(0));
            if (taken == thing) {
                return turn;
            }
            left.remove(taken);
            turn = (turn + 1) % 3;
        }
        return -1;
    }

    // ---- all of it

    public int image() {
        image = all.twin();
        return 1;
    }

    public int back() {
        if (image == null) {
            return no(-5);
        }
        all = image.twin();
        for (int s = 0; s < 8; s++) {
            if (shelves[s] instanceof Integer && !is((Integer) shelves[s], all.things)) {
                shelves[s] = null;
            }
        }
        return 1;
    }

    public int status(int what) {
        if (in(what, 12, 16)) {
            return refusals[what - 12];
        }
        if (!in(what, 0, 8)) {
            return -1;
        }
        int held = (int) Arrays.stream(shelves).filter(s -> s != null).count();
        return new int[] {all.things.size(), all.ladies.size(), all.laws.size(), all.buyers.size(), all.tables.size(),
            all.sightings.size(), all.secrets.size(), tape.length(), held}[what];
    }
}
