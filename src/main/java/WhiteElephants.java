import java.util.Arrays;

/**
 * A hall of jumble: things given, priced, sold by the hour, hidden from some, and what is left of them.
 * What each call must do stands in shared/DOC.md; the words in capitals here are that document's.
 *
 * All rows are made once, with the object: no call makes an object or an array.
 */
public final class WhiteElephants {
    public static final int NONE = -1;

    private static final int FINE = 0;
    private static final int BAD = -2;
    private static final int OTHER = -3;
    private static final int NOTHING = -4;
    private static final int STUCK = -5;
    private static final int FULL = -6;
    private static final int REFUSALS = 5;
    private static final int BEFORE_FAULT = -20;

    private static final int SHELVES = 8;
    private static final int ELEMENTS = 40;
    private static final int SORTS = 5;
    private static final int BEFORE_THING = 10;

    private static final int THINGS = 30;
    private static final int LADIES = 5;
    private static final int LAWS = 6;
    private static final int TAPE = 120;
    private static final int BUYERS = 12;
    private static final int TABLES = 5;
    private static final int SIGHTINGS = 20;
    private static final int SECRETS = 10;
    private static final int PERSONS = 16;
    private static final int HALLS = 3;

    private static final int KINDS = 6;
    private static final int THING = 0;
    private static final int CHINA = 1;
    private static final int VASE = 2;
    private static final int LIDDED = 3;
    private static final int CLOTH = 4;
    private static final int BOOK = 5;

    private static final int ALL_KINDS = 63;
    private static final int ALL_CHIPS = 255;
    private static final int ALL_TABLES = 31;
    private static final int CHIPS = 8;

    private static final int MOST_PENCE = 999;
    private static final int MOST_PURSE = 9999;
    private static final int MOST_EYE = 300;
    private static final int MOST_MINUTES = 200;
    private static final int MOST_YEAR = 99;
    private static final int HOURS = 12;
    private static final int NEVER = 12;
    private static final int HUNDRED = 100;

    private final Shelf[] shelves = new Shelf[SHELVES];
    private final int[] refusals = new int[REFUSALS];
    private final Tape tape = new Tape();
    private final Hall now = new Hall();
    private final Hall kept = new Hall();
    private final Sale sale = new Sale();
    private final Picks picks = new Picks();
    private boolean imaged = false;

    public WhiteElephants() {
        for (int s = 0; s < SHELVES; s++) {
            shelves[s] = new Shelf();
        }
    }

    // ---- shelves and things

    public int row(int s, int sort, int n) {
        if (!isShelf(s) || !within(sort, 0, SORTS - 1) || !within(n, 0, ELEMENTS)) {
            return refuse(BAD);
        }
        shelves[s].takeRow(sort, n);
        return 1;
    }

    public int set(int s, int i, long v) {
        int refusal = refusalOfRow(s);
        if (refusal != FINE) {
            return refuse(refusal);
        }
        if (!within(i, 0, shelves[s].size - 1)) {
            return refuse(BAD);
        }
        shelves[s].put(i, v);
        return 1;
    }

    public int copy(int p, int q, int i, int j, int n) {
        if (!isShelf(p) || !isShelf(q)) {
            return refuse(BAD);
        }
        Shelf from = shelves[p];
        Shelf to = shelves[q];
        if (from.hasThing() || to.hasThing()) {
            return refuse(OTHER);
        }
        if (from.hasRow() && to.hasRow() && from.held != to.held) {
            return refuse(OTHER);
        }
        if (from.isEmpty() || to.isEmpty()) {
            return refuse(NOTHING);
        }
        if (!from.hasPlaces(i, n) || !to.hasPlaces(j, n)) {
            return refuse(BAD);
        }
        System.arraycopy(from.elements, i, to.elements, j, n);
        return n;
    }

    public long element(int s, int i) {
        return isShelf(s) ? shelves[s].at(i) : 0;
    }

    public int holds(int s) {
        return isShelf(s) ? shelves[s].held : NONE;
    }

    public int show(int s, int thing) {
        if (!isShelf(s) || (thing != NONE && !now.things.has(thing))) {
            return refuse(BAD);
        }
        shelves[s].held = thing == NONE ? NONE : BEFORE_THING + thing;
        return 1;
    }

    public int says(int s, int kind) {
        if (!isShelf(s) || !isKind(kind)) {
            return refuse(BAD);
        }
        Shelf shelf = shelves[s];
        if (shelf.isEmpty()) {
            return refuse(NOTHING);
        }
        int thing = shelf.held - BEFORE_THING;
        if (!now.things.has(thing) || !now.things.isOfOrUnder(thing, kind)) {
            return refuse(OTHER);
        }
        return now.things.wordOf(thing, kind);
    }

    public int thing(int kind, int worth, int chips) {
        if (!isKind(kind) || !within(worth, 0, MOST_PENCE) || !within(chips, 0, ALL_CHIPS)) {
            return refuse(BAD);
        }
        if (now.things.count >= THINGS) {
            return refuse(FULL);
        }
        return now.things.add(kind, worth, chips);
    }

    public int things(int s, int kind, int n) {
        if (!isShelf(s) || !isKind(kind)) {
            return refuse(BAD);
        }
        int refusal = refusalOfRow(s);
        if (refusal != FINE) {
            return refuse(refusal);
        }
        Shelf shelf = shelves[s];
        if (!within(n, 0, shelf.size)) {
            return refuse(BAD);
        }
        for (int i = 0; i < n; i++) {
            long worth = shelf.at(i);
            if (worth < 0 || worth > MOST_PENCE || now.things.count >= THINGS) {
                return i;
            }
            now.things.add(kind, (int) worth, 0);
        }
        return n;
    }

    public int thingOf(int thing, int what) {
        if (!now.things.has(thing)) {
            return refuse(BAD);
        }
        switch (what) {
            case 0:
                return now.things.kind[thing];
            case 1:
                return now.things.worth[thing];
            case 2:
                return now.things.chips[thing];
            case 3:
                return now.things.trueWorth(thing);
            case 4:
                return now.things.price[thing];
            case 5:
                return now.things.buyer[thing];
            case 6:
                return now.things.paid[thing];
            default:
                return refuse(BAD);
        }
    }

    public int chip(int thing, int chip) {
        if (!now.things.has(thing) || !within(chip, 0, CHIPS - 1)) {
            return refuse(BAD);
        }
        if (hasBit(now.things.chips[thing], chip)) {
            return 0;
        }
        now.things.chips[thing] |= 1 << chip;
        return 1;
    }

    // ---- ladies, laws, prices

    public int lady(int knows, int guess) {
        if (!isKinds(knows) || !within(guess, 0, MOST_PENCE)) {
            return refuse(BAD);
        }
        if (now.ladies.count >= LADIES) {
            return refuse(FULL);
        }
        return now.ladies.add(knows, guess);
    }

    public int goes(int lady, int law) {
        if (!now.ladies.has(lady) || (law != NONE && !now.laws.has(law))) {
            return refuse(BAD);
        }
        int before = now.ladies.law[lady];
        now.ladies.law[lady] = law;
        return before;
    }

    public int feed(int v, int n) {
        if (!within(n, 1, 4)) {
            return refuse(BAD);
        }
        if (tape.size + n > TAPE) {
            return refuse(FULL);
        }
        tape.append(v, n);
        return tape.size;
    }

    public int wipe() {
        int before = tape.size;
        tape.size = 0;
        return before;
    }

    public int law() {
        if (now.laws.count >= LAWS) {
            return refuse(FULL);
        }
        int fault = tape.readInto(now.laws);
        tape.size = 0;
        if (fault == NONE) {
            return now.laws.addDraft();
        }
        refuse(BAD);
        return BEFORE_FAULT - fault;
    }

    public int lawOf(int law, int what) {
        if (!now.laws.has(law) || !within(what, 0, Laws.PARTS - 1)) {
            return refuse(BAD);
        }
        return now.laws.part(law, what);
    }

    public int thinks(int lady, int thing, boolean lost) {
        if (!now.ladies.has(lady) || !now.things.has(thing)) {
            return refuse(BAD);
        }
        return lost ? now.lostOn(lady, thing) : now.priceBy(lady, thing);
    }

    public int price(int lady, int kinds) {
        if (!now.ladies.has(lady) || !isKinds(kinds)) {
            return refuse(BAD);
        }
        return now.priceAll(lady, kinds);
    }

    public int mark(int thing, int v) {
        if (!now.things.has(thing) || (v != NONE && !within(v, 0, MOST_PENCE))) {
            return refuse(BAD);
        }
        if (now.things.isSold(thing)) {
            return refuse(STUCK);
        }
        int before = now.things.price[thing];
        now.things.price[thing] = v;
        return before;
    }

    // ---- buyers, a day ahead of time

    public int buyer(int hour, int purse, int wishes, int eye) {
        if (!isHour(hour) || !within(purse, 0, MOST_PURSE) || !isKinds(wishes) || !within(eye, 0, MOST_EYE)) {
            return refuse(BAD);
        }
        if (now.buyers.count >= BUYERS) {
            return refuse(FULL);
        }
        return now.buyers.add(hour, purse, wishes, eye);
    }

    public int buyerOf(int buyer, int what) {
        if (!now.buyers.has(buyer)) {
            return refuse(BAD);
        }
        switch (what) {
            case 0:
                return now.buyers.hour[buyer];
            case 1:
                return now.buyers.purse[buyer];
            case 2:
                return now.buyers.wishes[buyer];
            case 3:
                return now.buyers.eye[buyer];
            case 4:
                return now.buyers.bought[buyer];
            default:
                return refuse(BAD);
        }
    }

    public int turn(int what, int hour) {
        if (!within(what, 0, 1) || !within(hour, 0, NEVER)) {
            return refuse(BAD);
        }
        int before = what == 0 ? now.half : now.bag;
        if (what == 0) {
            now.half = hour;
        } else {
            now.bag = hour;
        }
        return before;
    }

    public int costs(int thing, int hour) {
        if (!now.things.has(thing) || !isHour(hour)) {
            return refuse(BAD);
        }
        if (now.things.price[thing] == NONE) {
            return NONE;
        }
        return Sale.cost(now.things.price[thing], Sale.stage(hour, now.half, now.bag));
    }

    public int takes(int buyer, int hour) {
        if (!now.buyers.has(buyer) || !isHour(hour)) {
            return refuse(BAD);
        }
        sale.open(now, now.half, now.bag);
        return sale.wanted(now, buyer, hour);
    }

    public int takings(int half, int bag) {
        if (!within(half, 0, NEVER) || !within(bag, 0, NEVER)) {
            return refuse(BAD);
        }
        return sale.wholeDay(now, half, bag);
    }

    public int best() {
        return sale.bestTurns(now);
    }

    public int judge(int s) {
        int refusal = refusalOfRow(s);
        if (refusal != FINE) {
            return refuse(refusal);
        }
        sale.open(now, now.half, now.bag);
        for (int hour = 0; hour < HOURS; hour++) {
            if (sale.playHour(now, hour) != shelves[s].at(hour)) {
                return hour;
            }
        }
        return NONE;
    }

    public int rest(int kind) {
        if (kind != NONE && !isKind(kind)) {
            return refuse(BAD);
        }
        return now.things.worthLeft(kind == NONE ? ALL_KINDS : 1 << kind);
    }

    public int loses(int lady, int kinds) {
        if (!now.ladies.has(lady) || !isKinds(kinds)) {
            return refuse(BAD);
        }
        return now.lostOnKinds(lady, kinds);
    }

    // ---- the day under way

    public int go(int n) {
        if (!within(n, 1, HOURS)) {
            return refuse(BAD);
        }
        if (now.hour >= HOURS) {
            return refuse(STUCK);
        }
        int end = Math.min(HOURS, now.hour + n);
        int taken = 0;
        sale.open(now, now.half, now.bag);
        for (int hour = now.hour; hour < end; hour++) {
            taken += sale.playHour(now, hour);
        }
        sale.settle(now);
        now.hour = end;
        now.taken += taken;
        return taken;
    }

    public int day(int what) {
        switch (what) {
            case 0:
                return now.hour;
            case 1:
                return now.taken;
            case 2:
                return now.things.count - now.things.countLeft();
            case 3:
                return now.things.countLeft();
            default:
                return refuse(BAD);
        }
    }

    public int morning() {
        int before = now.hour;
        now.hour = 0;
        now.taken = 0;
        return before;
    }

    // ---- choices

    public int shown(int minutes) {
        if (!within(minutes, 0, MOST_MINUTES)) {
            return refuse(BAD);
        }
        return picks.bargains(now.things, minutes);
    }

    public int table(int kinds) {
        if (!isKinds(kinds)) {
            return refuse(BAD);
        }
        if (now.tableCount >= TABLES) {
            return refuse(FULL);
        }
        now.tables[now.tableCount] = kinds;
        now.tableCount++;
        return now.tableCount - 1;
    }

    public int who(int what) {
        if (what != NONE && !within(what, 0, now.tableCount - 1)) {
            return refuse(BAD);
        }
        if (now.tableCount > now.ladies.count) {
            return refuse(STUCK);
        }
        now.planTables();
        return what == NONE ? now.leastLost[0] : now.ladyAt(what);
    }

    public int sight(int year, int chips, int gave, int bought) {
        if (!within(year, 0, MOST_YEAR) || !within(chips, 0, ALL_CHIPS)
                || !isPersonOrNone(gave) || !isPersonOrNone(bought)) {
            return refuse(BAD);
        }
        if (now.sightings.count >= SIGHTINGS) {
            return refuse(FULL);
        }
        return now.sightings.add(year, chips, gave, bought);
    }

    public int same(int sighting, int later) {
        if (!now.sightings.has(sighting) || !now.sightings.has(later)) {
            return refuse(BAD);
        }
        return now.sightings.mayBeOf(sighting, later) ? 1 : 0;
    }

    public int vases() {
        return now.sightings.fewestVases();
    }

    public int longest() {
        return now.sightings.longestRow();
    }

    public int secret(int thing, int person) {
        if (!now.things.has(thing) || !isPerson(person)) {
            return refuse(BAD);
        }
        if (now.secrets.count >= SECRETS) {
            return refuse(FULL);
        }
        return now.secrets.add(thing, person);
    }

    public int looks(int person, int tables) {
        if (!isPerson(person) || !within(tables, 0, ALL_TABLES)) {
            return refuse(BAD);
        }
        int before = now.secrets.sees[person];
        now.secrets.sees[person] = tables;
        return before;
    }

    public int laid(int room, int thing) {
        if (!within(room, 1, SECRETS) || !now.things.has(thing)) {
            return refuse(BAD);
        }
        if (!now.secrets.lay(room)) {
            return refuse(STUCK);
        }
        return now.secrets.tableOf(thing);
    }

    public int shortBy(int sum) {
        if (!within(sum, 1, MOST_PURSE)) {
            return refuse(BAD);
        }
        return picks.fewestPaid(now.things, sum);
    }

    public int hall(int first, int thing) {
        if (!within(first, 0, HALLS - 1) || !now.things.has(thing)) {
            return refuse(BAD);
        }
        now.things.share(first);
        return now.things.sharedTo[thing];
    }

    // ---- all of it

    public int image() {
        kept.become(now);
        imaged = true;
        return 1;
    }

    public int back() {
        if (!imaged) {
            return refuse(STUCK);
        }
        now.become(kept);
        for (int s = 0; s < SHELVES; s++) {
            if (shelves[s].hasThing() && !now.things.has(shelves[s].held - BEFORE_THING)) {
                shelves[s].held = NONE;
            }
        }
        return 1;
    }

    public int status(int what) {
        switch (what) {
            case 0:
                return now.things.count;
            case 1:
                return now.ladies.count;
            case 2:
                return now.laws.count;
            case 3:
                return now.buyers.count;
            case 4:
                return now.tableCount;
            case 5:
                return now.sightings.count;
            case 6:
                return now.secrets.count;
            case 7:
                return tape.size;
            case 8:
                return shelvesInUse();
            default:
                return within(what, 12, 11 + REFUSALS) ? refusals[what - 12] : NONE;
        }
    }

    // ---- what may be

    private static boolean within(int v, int least, int most) {
        return v >= least && v <= most;
    }

    private static boolean isShelf(int s) {
        return within(s, 0, SHELVES - 1);
    }

    private static boolean isKind(int kind) {
        return within(kind, 0, KINDS - 1);
    }

    private static boolean isKinds(int kinds) {
        return within(kinds, 0, ALL_KINDS);
    }

    private static boolean isHour(int hour) {
        return within(hour, 0, HOURS - 1);
    }

    private static boolean isPerson(int person) {
        return within(person, 0, PERSONS - 1);
    }

    private static boolean isPersonOrNone(int person) {
        return person == NONE || isPerson(person);
    }

    private static boolean hasBit(int bits, int bit) {
        return (bits >> bit & 1) != 0;
    }

    private int refuse(int refusal) {
        int place = BAD - refusal;
        if (within(place, 0, REFUSALS - 1)) {
            refusals[place]++;
        }
        return refusal;
    }

    /** FINE if SHELF s holds a ROW, else the refusal of a call that wants one there. */
    private int refusalOfRow(int s) {
        if (!isShelf(s)) {
            return BAD;
        }
        if (shelves[s].hasThing()) {
            return OTHER;
        }
        return shelves[s].isEmpty() ? NOTHING : FINE;
    }

    private int shelvesInUse() {
        int used = 0;
        for (int s = 0; s < SHELVES; s++) {
            if (!shelves[s].isEmpty()) {
                used++;
            }
        }
        return used;
    }

    /** One SHELF; a ROW's elements are kept as longs, cut to their SORT when they are put in. */
    private static final class Shelf {
        final long[] elements = new long[ELEMENTS];
        int held = NONE;
        int size = 0;

        boolean isEmpty() {
            return held == NONE;
        }

        boolean hasRow() {
            return within(held, 0, SORTS - 1);
        }

        boolean hasThing() {
            return held >= BEFORE_THING;
        }

        /** Whether n places from i on are all in the ROW; i may be its end if n is 0. */
        boolean hasPlaces(int i, int n) {
            return within(i, 0, size) && within(n, 0, size - i);
        }

        void takeRow(int sort, int n) {
            held = sort;
            size = n;
            Arrays.fill(elements, 0);
        }

        long at(int i) {
            return hasRow() && within(i, 0, size - 1) ? elements[i] : 0;
        }

        void put(int i, long v) {
            if (hasRow() && within(i, 0, size - 1)) {
                elements[i] = cutToSort(v);
            }
        }

        private long cutToSort(long v) {
            switch (held) {
                case 0:
                    return (byte) v;
                case 1:
                    return (short) v;
                case 2:
                    return (int) v;
                case 3:
                    return v;
                default:
                    return v != 0 ? 1 : 0;
            }
        }
    }

    /** The bytes that a LAW is read from, and the TOKEN that the reading has come to. */
    private static final class Tape {
        private static final int MOST_DIGITS = 3;

        final byte[] bytes = new byte[TAPE];
        int size = 0;
        private int begin = 0;
        private int end = 0;

        void append(int v, int n) {
            for (int i = n - 1; i >= 0 && size < TAPE; i--) {
                bytes[size] = (byte) (v >> 8 * i);
                size++;
            }
        }

        /** Reads all of it into the draft of the LAWS: NONE, or the FAULT. */
        int readInto(Laws laws) {
            laws.clearDraft();
            begin = 0;
            end = 0;
            // a statement takes a byte at least, so that there can't be more of them than bytes
            for (int statement = 0; statement <= size; statement++) {
                step();
                int part = partNamed();
                if (part == NONE) {
                    return begin;
                }
                step();
                int number = number();
                if (!Laws.mayTell(part, number)) {
                    return begin;
                }
                laws.draft[part] = number;
                step();
                if (begin >= size) {
                    return NONE;
                }
                if (bytes[begin] != ';') {
                    return begin;
                }
            }
            return size;
        }

        /** Goes to the next TOKEN; behind the last one both ends are THE TAPE's size. */
        private void step() {
            begin = end;
            while (begin < size && bytes[begin] == ' ') {
                begin++;
            }
            end = begin;
            while (end < size && isLetter(bytes[end])) {
                end++;
            }
            if (end > begin) {
                return;
            }
            while (end < size && isDigit(bytes[end])) {
                end++;
            }
            if (end == begin && end < size) {
                end++;
            }
        }

        private static boolean isLetter(byte sign) {
            return sign >= 'a' && sign <= 'z';
        }

        private static boolean isDigit(byte sign) {
            return sign >= '0' && sign <= '9';
        }

        /** The part of a LAW that the TOKEN names; NONE if it names none. */
        private int partNamed() {
            if (isWord("known")) {
                return Laws.KNOWN;
            }
            if (isWord("strange")) {
                return Laws.STRANGE;
            }
            if (isWord("round")) {
                return Laws.ROUND;
            }
            if (isWord("least")) {
                return Laws.LEAST;
            }
            return isWord("most") ? Laws.MOST : NONE;
        }

        private boolean isWord(String word) {
            if (end - begin != word.length()) {
                return false;
            }
            for (int i = 0; i < word.length(); i++) {
                if (bytes[begin + i] != word.charAt(i)) {
                    return false;
                }
            }
            return true;
        }

        /** The TOKEN as a NUMBER; NONE if it is none, or has more than 3 digits. */
        private int number() {
            if (begin >= size || !isDigit(bytes[begin]) || end - begin > MOST_DIGITS) {
                return NONE;
            }
            int number = 0;
            for (int i = begin; i < end; i++) {
                number = 10 * number + bytes[i] - '0';
            }
            return number;
        }
    }

    /** The LAWS, a row of PARTS numbers each, and the draft of the one that is being read. */
    private static final class Laws {
        static final int KNOWN = 0;
        static final int STRANGE = 1;
        static final int ROUND = 2;
        static final int LEAST = 3;
        static final int MOST = 4;
        static final int PARTS = 5;
        private static final int[] AT_FIRST = {100, 50, 1, 0, 999};
        private static final int[] AT_LEAST = {0, 0, 1, 0, 0};
        private static final int[] AT_MOST = {200, 200, 50, 999, 999};

        final int[] parts = new int[LAWS * PARTS];
        final int[] draft = new int[PARTS];
        int count = 0;

        static boolean mayTell(int part, int number) {
            return within(number, AT_LEAST[part], AT_MOST[part]);
        }

        boolean has(int law) {
            return within(law, 0, count - 1);
        }

        /** A part of a LAW, or of none. */
        int part(int law, int what) {
            return has(law) ? parts[law * PARTS + what] : AT_FIRST[what];
        }

        void clearDraft() {
            System.arraycopy(AT_FIRST, 0, draft, 0, PARTS);
        }

        int addDraft() {
            System.arraycopy(draft, 0, parts, count * PARTS, PARTS);
            count++;
            return count - 1;
        }

        void become(Laws other) {
            System.arraycopy(other.parts, 0, parts, 0, parts.length);
            count = other.count;
        }
    }

    /** The LADIES. */
    private static final class Ladies {
        final int[] knows = new int[LADIES];
        final int[] guess = new int[LADIES];
        final int[] law = new int[LADIES];
        int count = 0;

        boolean has(int lady) {
            return within(lady, 0, count - 1);
        }

        int add(int kinds, int pence) {
            knows[count] = kinds;
            guess[count] = pence;
            law[count] = NONE;
            count++;
            return count - 1;
        }

        void become(Ladies other) {
            System.arraycopy(other.knows, 0, knows, 0, LADIES);
            System.arraycopy(other.guess, 0, guess, 0, LADIES);
            System.arraycopy(other.law, 0, law, 0, LADIES);
            count = other.count;
        }
    }

    /** The THINGS, and how the HALLS would share those that are LEFT. */
    private static final class Things {
        /** The KIND that each one is under. */
        private static final int[] UNDER = {NONE, THING, CHINA, VASE, THING, THING};
        /** The KINDS that each HALL takes first. */
        private static final int[] LIKED = {63, 48, 14};
        private static final int CLOTH_MOST = 200;
        private static final int LID = 50;
        private static final int VASE_CHIP = 0;
        private static final int LID_CHIP = 7;

        final int[] kind = new int[THINGS];
        final int[] worth = new int[THINGS];
        final int[] chips = new int[THINGS];
        final int[] price = new int[THINGS];
        final int[] buyer = new int[THINGS];
        final int[] paid = new int[THINGS];
        int count = 0;
        final int[] sharedTo = new int[THINGS];

        boolean has(int t) {
            return within(t, 0, count - 1);
        }

        int add(int ofKind, int pence, int chipBits) {
            kind[count] = ofKind;
            worth[count] = pence;
            chips[count] = chipBits;
            price[count] = NONE;
            buyer[count] = NONE;
            paid[count] = NONE;
            count++;
            return count - 1;
        }

        boolean isSold(int t) {
            return buyer[t] != NONE;
        }

        boolean isOffered(int t) {
            return price[t] != NONE && !isSold(t);
        }

        boolean isOfKinds(int t, int kinds) {
            return hasBit(kinds, kind[t]);
        }

        boolean isOfOrUnder(int t, int wanted) {
            int above = kind[t];
            for (int step = 0; step < KINDS && above != NONE; step++) {
                if (above == wanted) {
                    return true;
                }
                above = UNDER[above];
            }
            return false;
        }

        int trueWorth(int t) {
            switch (kind[t]) {
                case CHINA:
                    return chinaWorth(t);
                case VASE:
                    return asVase(t, chinaWorth(t));
                case LIDDED:
                    return asVase(t, chinaWorth(t)) + lidWorth(t);
                case CLOTH:
                    return Math.min(worth[t], CLOTH_MOST);
                default:
                    return worth[t];
            }
        }

        private int chinaWorth(int t) {
            return Math.max(0, worth[t] - worth[t] / 10 * Integer.bitCount(chips[t]));
        }

        private int asVase(int t, int pence) {
            return hasBit(chips[t], VASE_CHIP) ? pence / 2 : pence;
        }

        private int lidWorth(int t) {
            return hasBit(chips[t], LID_CHIP) ? 0 : LID;
        }

        /** What a THING says as one of a KIND, which the caller has found it to be. */
        int wordOf(int t, int asKind) {
            switch (asKind) {
                case CHINA:
                    return Integer.bitCount(chips[t]);
                case VASE:
                    return hasBit(chips[t], VASE_CHIP) ? 1 : 0;
                case LIDDED:
                    return lidWorth(t);
                case CLOTH:
                    return Math.max(0, worth[t] - CLOTH_MOST);
                case BOOK:
                    return worth[t];
                default:
                    return trueWorth(t);
            }
        }

        int countLeft() {
            int left = 0;
            for (int t = 0; t < count; t++) {
                if (!isSold(t)) {
                    left++;
                }
            }
            return left;
        }

        int worthLeft(int kinds) {
            int sum = 0;
            for (int t = 0; t < count; t++) {
                if (!isSold(t) && isOfKinds(t, kinds)) {
                    sum += trueWorth(t);
                }
            }
            return sum;
        }

        /** Shares what is LEFT among the HALLS, by turns from the told one on. */
        void share(int first) {
            Arrays.fill(sharedTo, NONE);
            int turns = countLeft();
            for (int turn = 0; turn < turns; turn++) {
                int taker = (first + turn) % HALLS;
                int t = dearestUnshared(LIKED[taker]);
                if (t == NONE) {
                    t = dearestUnshared(ALL_KINDS);
                }
                if (t != NONE) {
                    sharedTo[t] = taker;
                }
            }
        }

        private int dearestUnshared(int kinds) {
            int dearest = NONE;
            int most = 0;
            for (int t = 0; t < count; t++) {
                if (!isSold(t) && sharedTo[t] == NONE && isOfKinds(t, kinds) && trueWorth(t) >= most) {
                    dearest = t;
                    most = trueWorth(t);
                }
            }
            return dearest;
        }

        void become(Things other) {
            System.arraycopy(other.kind, 0, kind, 0, THINGS);
            System.arraycopy(other.worth, 0, worth, 0, THINGS);
            System.arraycopy(other.chips, 0, chips, 0, THINGS);
            System.arraycopy(other.price, 0, price, 0, THINGS);
            System.arraycopy(other.buyer, 0, buyer, 0, THINGS);
            System.arraycopy(other.paid, 0, paid, 0, THINGS);
            count = other.count;
        }
    }

    /** The BUYERS. */
    private static final class Buyers {
        final int[] hour = new int[BUYERS];
        final int[] purse = new int[BUYERS];
        final int[] wishes = new int[BUYERS];
        final int[] eye = new int[BUYERS];
        final int[] bought = new int[BUYERS];
        int count = 0;

        boolean has(int b) {
            return within(b, 0, count - 1);
        }

        int add(int fromHour, int pence, int kinds, int hundredths) {
            hour[count] = fromHour;
            purse[count] = pence;
            wishes[count] = kinds;
            eye[count] = hundredths;
            bought[count] = 0;
            count++;
            return count - 1;
        }

        void become(Buyers other) {
            System.arraycopy(other.hour, 0, hour, 0, BUYERS);
            System.arraycopy(other.purse, 0, purse, 0, BUYERS);
            System.arraycopy(other.wishes, 0, wishes, 0, BUYERS);
            System.arraycopy(other.eye, 0, eye, 0, BUYERS);
            System.arraycopy(other.bought, 0, bought, 0, BUYERS);
            count = other.count;
        }
    }

    /** The SIGHTINGS, and the rows that the questions about their VASES work on. */
    private static final class Sightings {
        final int[] year = new int[SIGHTINGS];
        final int[] chips = new int[SIGHTINGS];
        final int[] gave = new int[SIGHTINGS];
        final int[] bought = new int[SIGHTINGS];
        int count = 0;
        private final int[] before = new int[SIGHTINGS];
        private final int[] tried = new int[SIGHTINGS];
        private final int[] length = new int[SIGHTINGS];

        boolean has(int i) {
            return within(i, 0, count - 1);
        }

        int add(int inYear, int chipBits, int giver, int taker) {
            year[count] = inYear;
            chips[count] = chipBits;
            gave[count] = giver;
            bought[count] = taker;
            count++;
            return count - 1;
        }

        boolean mayBeOf(int i, int later) {
            return year[i] < year[later]
                    && (chips[i] & ~chips[later]) == 0
                    && (bought[i] == NONE || gave[later] == NONE || bought[i] == gave[later]);
        }

        /** Each SIGHTING that gets one before it saves a VASE: as many of these pairs as can be. */
        int fewestVases() {
            Arrays.fill(before, NONE);
            int pairs = 0;
            for (int i = 0; i < count; i++) {
                Arrays.fill(tried, NONE);
                if (findsNext(this, i, 0)) {
                    pairs++;
                }
            }
            return count - pairs;
        }

        /** Finds a later one for i; who stands before that one must find another (each level tries one more). */
        private static boolean findsNext(Sightings all, int i, int depth) {
            if (depth > SIGHTINGS) {
                return false;
            }
            for (int later = 0; later < all.count; later++) {
                if (all.tried[later] == NONE && all.mayBeOf(i, later)) {
                    all.tried[later] = i;
                    if (all.before[later] == NONE || findsNext(all, all.before[later], depth + 1)) {
                        all.before[later] = i;
                        return true;
                    }
                }
            }
            return false;
        }

        int longestRow() {
            int longest = 0;
            // by years, so that all that may stand before one have their length when it gets its own
            for (int y = 0; y <= MOST_YEAR; y++) {
                for (int i = 0; i < count; i++) {
                    if (year[i] == y) {
                        length[i] = 1 + longestBefore(i);
                        longest = Math.max(longest, length[i]);
                    }
                }
            }
            return longest;
        }

        private int longestBefore(int later) {
            int longest = 0;
            for (int i = 0; i < count; i++) {
                if (mayBeOf(i, later)) {
                    longest = Math.max(longest, length[i]);
                }
            }
            return longest;
        }

        void become(Sightings other) {
            System.arraycopy(other.year, 0, year, 0, SIGHTINGS);
            System.arraycopy(other.chips, 0, chips, 0, SIGHTINGS);
            System.arraycopy(other.gave, 0, gave, 0, SIGHTINGS);
            System.arraycopy(other.bought, 0, bought, 0, SIGHTINGS);
            count = other.count;
        }
    }

    /** The SECRETS, who LOOKS at which TABLES, and the rows on which THINGS are LAID. */
    private static final class Secrets {
        final int[] thing = new int[SECRETS];
        final int[] person = new int[SECRETS];
        int count = 0;
        final int[] sees = new int[PERSONS];
        /** The THINGS with SECRETS, the least first, where each may lie (TABLES, bits), and lies. */
        private final int[] hidden = new int[SECRETS];
        private final int[] safe = new int[SECRETS];
        private final int[] lies = new int[SECRETS];
        private int hiddenCount = 0;
        private final int[] space = new int[TABLES];

        int add(int t, int from) {
            thing[count] = t;
            person[count] = from;
            count++;
            return count - 1;
        }

        /** Lays all THINGS with SECRETS; false: none can be. */
        boolean lay(int room) {
            findHidden();
            Arrays.fill(space, room);
            if (!canLie(0)) {
                return false;
            }
            for (int h = 0; h < hiddenCount; h++) {
                lies[h] = firstTable(h);
            }
            return true;
        }

        int tableOf(int t) {
            for (int h = 0; h < hiddenCount; h++) {
                if (hidden[h] == t) {
                    return lies[h];
                }
            }
            return NONE;
        }

        private void findHidden() {
            hiddenCount = 0;
            for (int t = 0; t < THINGS; t++) {
                int found = 0;
                int watched = 0;
                for (int i = 0; i < count; i++) {
                    if (thing[i] == t) {
                        found++;
                        watched |= sees[person[i]];
                    }
                }
                if (found > 0 && hiddenCount < SECRETS) {
                    hidden[hiddenCount] = t;
                    safe[hiddenCount] = ALL_TABLES & ~watched;
                    hiddenCount++;
                }
            }
        }

        /** Takes a place at the first TABLE that leaves the later ones theirs. */
        private int firstTable(int h) {
            for (int table = 0; table < TABLES; table++) {
                if (hasBit(safe[h], table) && space[table] > 0) {
                    space[table]--;
                    if (canLie(h + 1)) {
                        return table;
                    }
                    space[table]++;
                }
            }
            return NONE;
        }

        /** By Hall's theorem: if no set of TABLES has more that must lie there than places. */
        private boolean canLie(int from) {
            for (int set = 0; set <= ALL_TABLES; set++) {
                int places = 0;
                for (int table = 0; table < TABLES; table++) {
                    if (hasBit(set, table)) {
                        places += space[table];
                    }
                }
                for (int h = from; h < hiddenCount; h++) {
                    if ((safe[h] & ~set) == 0) {
                        places--;
                    }
                }
                if (places < 0) {
                    return false;
                }
            }
            return true;
        }

        void become(Secrets other) {
            System.arraycopy(other.thing, 0, thing, 0, SECRETS);
            System.arraycopy(other.person, 0, person, 0, SECRETS);
            System.arraycopy(other.sees, 0, sees, 0, PERSONS);
            count = other.count;
        }
    }

    /** All that an image keeps; and what takes more than one part of it: PRICES, and WHO. */
    private static final class Hall {
        final Things things = new Things();
        final Ladies ladies = new Ladies();
        final Laws laws = new Laws();
        final Buyers buyers = new Buyers();
        final Sightings sightings = new Sightings();
        final Secrets secrets = new Secrets();
        final int[] tables = new int[TABLES];
        int tableCount = 0;
        int half = NEVER;
        int bag = NEVER;
        int hour = 0;
        int taken = 0;
        /** By lady and TABLE: what is LOST by her at it. */
        private final int[] lostAt = new int[LADIES * TABLES];
        /** By LADIES who have a TABLE (bits): the least that is LOST at the TABLES that have none. */
        final int[] leastLost = new int[1 << LADIES];

        int priceBy(int lady, int t) {
            return priceOf(lady, t, things.trueWorth(t));
        }

        private int priceOf(int lady, int t, int truth) {
            int law = ladies.law[lady];
            int pence = hasBit(ladies.knows[lady], things.kind[t])
                    ? laws.part(law, Laws.KNOWN) * truth / HUNDRED
                    : laws.part(law, Laws.STRANGE) * ladies.guess[lady] / HUNDRED;
            int round = laws.part(law, Laws.ROUND);
            if (round > 1) {
                pence -= pence % round;
            }
            pence = Math.max(pence, laws.part(law, Laws.LEAST));
            return Math.min(pence, laws.part(law, Laws.MOST));
        }

        int lostOn(int lady, int t) {
            int truth = things.trueWorth(t);
            return Math.max(0, truth - priceOf(lady, t, truth));
        }

        int lostOnKinds(int lady, int kinds) {
            int sum = 0;
            for (int t = 0; t < things.count; t++) {
                if (things.isOfKinds(t, kinds)) {
                    sum += lostOn(lady, t);
                }
            }
            return sum;
        }

        int priceAll(int lady, int kinds) {
            int priced = 0;
            for (int t = 0; t < things.count; t++) {
                if (things.price[t] == NONE && things.isOfKinds(t, kinds)) {
                    things.price[t] = priceBy(lady, t);
                    priced++;
                }
            }
            return priced;
        }

        /** Fills leastLost; TABLES get LADIES in their order, so the next TABLE is how many have one. */
        void planTables() {
            for (int lady = 0; lady < ladies.count; lady++) {
                for (int table = 0; table < tableCount; table++) {
                    lostAt[lady * TABLES + table] = lostOnKinds(lady, tables[table]);
                }
            }
            for (int busy = (1 << ladies.count) - 1; busy >= 0; busy--) {
                int table = Integer.bitCount(busy);
                int lady = bestLady(busy, table);
                leastLost[busy] = lady == NONE ? 0 : lostWith(busy, table, lady);
            }
        }

        /** The first of those LADIES with whom the least is LOST from a TABLE on; NONE behind the last. */
        private int bestLady(int busy, int table) {
            int best = NONE;
            int least = 0;
            if (table >= tableCount) {
                return NONE;
            }
            for (int lady = 0; lady < ladies.count; lady++) {
                if (!hasBit(busy, lady)) {
                    int lost = lostWith(busy, table, lady);
                    if (best == NONE || lost < least) {
                        best = lady;
                        least = lost;
                    }
                }
            }
            return best;
        }

        private int lostWith(int busy, int table, int lady) {
            return lostAt[lady * TABLES + table] + leastLost[busy | 1 << lady];
        }

        /** The lady of a TABLE, once leastLost is filled. */
        int ladyAt(int table) {
            int busy = 0;
            int lady = NONE;
            for (int t = 0; t <= table; t++) {
                lady = bestLady(busy, t);
                if (lady != NONE) {
                    busy |= 1 << lady;
                }
            }
            return lady;
        }

        void become(Hall other) {
            things.become(other.things);
            ladies.become(other.ladies);
            laws.become(other.laws);
            buyers.become(other.buyers);
            sightings.become(other.sightings);
            secrets.become(other.secrets);
            System.arraycopy(other.tables, 0, tables, 0, TABLES);
            tableCount = other.tableCount;
            half = other.half;
            bag = other.bag;
            hour = other.hour;
            taken = other.taken;
        }
    }

    /** A DAY played on the side: the hall does not change before settle(). */
    private static final class Sale {
        private static final int AT_PRICE = 0;
        private static final int HALVED = 1;
        private static final int BAGGED = 2;
        private static final int BAG_PENCE = 10;

        private int half = NEVER;
        private int bag = NEVER;
        /** The THINGS that can still be taken, by their numbers. */
        private final int[] left = new int[THINGS];
        private int leftCount = 0;
        private final int[] truth = new int[THINGS];
        private final int[] buyer = new int[THINGS];
        private final int[] paid = new int[THINGS];
        private final int[] purse = new int[BUYERS];
        /** The stage in which a BUYER found nothing: nor does it later in that stage. */
        private final int[] idle = new int[BUYERS];

        static int stage(int hour, int half, int bag) {
            if (hour >= bag) {
                return BAGGED;
            }
            return hour >= half ? HALVED : AT_PRICE;
        }

        static int cost(int price, int stage) {
            if (stage == BAGGED) {
                return BAG_PENCE;
            }
            return stage == HALVED ? price / 2 : price;
        }

        /** Begins with all that is for sale, and the PURSES, as they are in the hall. */
        void open(Hall hall, int fromHalf, int fromBag) {
            Things things = hall.things;
            half = fromHalf;
            bag = fromBag;
            leftCount = 0;
            for (int t = 0; t < things.count; t++) {
                buyer[t] = NONE;
                if (things.isOffered(t)) {
                    truth[t] = things.trueWorth(t);
                    left[leftCount] = t;
                    leftCount++;
                }
            }
            for (int b = 0; b < hall.buyers.count; b++) {
                purse[b] = hall.buyers.purse[b];
                idle[b] = NONE;
            }
        }

        /** The THING that a BUYER would take in an HOUR. */
        int wanted(Hall hall, int b, int hour) {
            if (hall.buyers.hour[b] > hour) {
                return NONE;
            }
            int place = placeWanted(hall, b, stage(hour, half, bag));
            return place == NONE ? NONE : left[place];
        }

        /** Plays one HOUR: what is taken in it. */
        int playHour(Hall hall, int hour) {
            int stage = stage(hour, half, bag);
            int taken = 0;
            for (int b = 0; b < hall.buyers.count; b++) {
                if (hall.buyers.hour[b] <= hour && idle[b] != stage) {
                    int place = placeWanted(hall, b, stage);
                    if (place == NONE) {
                        idle[b] = stage;
                    } else {
                        taken += sell(place, b, cost(hall.things.price[left[place]], stage));
                    }
                }
            }
            return taken;
        }

        private int placeWanted(Hall hall, int b, int stage) {
            Things things = hall.things;
            Buyers buyers = hall.buyers;
            int wanted = NONE;
            int most = -1;
            for (int place = 0; place < leftCount; place++) {
                int t = left[place];
                int cost = cost(things.price[t], stage);
                if (things.isOfKinds(t, buyers.wishes[b]) && cost <= purse[b]) {
                    int gain = buyers.eye[b] * truth[t] / HUNDRED - cost;
                    if (gain > most) {
                        wanted = place;
                        most = gain;
                    }
                }
            }
            return wanted;
        }

        private int sell(int place, int b, int cost) {
            int t = left[place];
            buyer[t] = b;
            paid[t] = cost;
            purse[b] -= cost;
            leftCount--;
            System.arraycopy(left, place + 1, left, place, leftCount - place);
            return cost;
        }

        int wholeDay(Hall hall, int fromHalf, int fromBag) {
            open(hall, fromHalf, fromBag);
            int taken = 0;
            for (int hour = 0; hour < HOURS; hour++) {
                taken += playHour(hall, hour);
            }
            return taken;
        }

        /** BEST: the latest are tried first, so that of several the latest stay. */
        int bestTurns(Hall hall) {
            int best = NONE;
            int most = -1;
            for (int h = NEVER; h >= 0; h--) {
                for (int b = NEVER; b >= h; b--) {
                    int taken = wholeDay(hall, h, b);
                    if (taken > most) {
                        best = HUNDRED * h + b;
                        most = taken;
                    }
                }
            }
            return best;
        }

        /** What was sold on the side is sold in the hall. */
        void settle(Hall hall) {
            Things things = hall.things;
            Buyers buyers = hall.buyers;
            for (int t = 0; t < things.count; t++) {
                int b = buyer[t];
                if (buyers.has(b)) {
                    things.buyer[t] = b;
                    things.paid[t] = paid[t];
                    buyers.purse[b] -= paid[t];
                    buyers.bought[b]++;
                }
            }
        }
    }

    /**
     * Sets of THINGS, as bits. THINGS are looked at from the least on, and a set with a later one counts
     * only if it is truly better: so of several sets the least as bits stays.
     */
    private static final class Picks {
        private static final int SHOWING = 2;

        /** By minutes, or by a sum: the set that has been found for it. */
        private final int[] sets = new int[MOST_PURSE + 1];
        private final int[] gains = new int[MOST_MINUTES + 1];

        int bargains(Things things, int minutes) {
            for (int m = 0; m <= minutes; m++) {
                sets[m] = 0;
                gains[m] = 0;
            }
            for (int t = 0; t < things.count; t++) {
                if (things.isOffered(t)) {
                    addBargain(t, SHOWING + things.kind[t], things.trueWorth(t) - things.price[t], minutes);
                }
            }
            return sets[minutes];
        }

        private void addBargain(int t, int takes, int gain, int minutes) {
            for (int m = minutes; m >= takes; m--) {
                if (gains[m - takes] + gain > gains[m]) {
                    gains[m] = gains[m - takes] + gain;
                    sets[m] = sets[m - takes] | 1 << t;
                }
            }
        }

        int fewestPaid(Things things, int sum) {
            sets[0] = 0;
            for (int s = 1; s <= sum; s++) {
                sets[s] = NONE;
            }
            int reach = 0;
            for (int t = 0; t < things.count; t++) {
                if (things.isSold(t)) {
                    reach = Math.min(sum, reach + things.paid[t]);
                    addPaid(t, things.paid[t], reach);
                }
            }
            return sets[sum];
        }

        private void addPaid(int t, int paid, int reach) {
            for (int sum = reach; sum >= paid; sum--) {
                int without = sets[sum];
                int with = sets[sum - paid];
                if (with != NONE
                        && (without == NONE || Integer.bitCount(with) + 1 < Integer.bitCount(without))) {
                    sets[sum] = with | 1 << t;
                }
            }
        }
    }
}
