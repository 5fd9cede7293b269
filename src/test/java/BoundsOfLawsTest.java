/** Promises 13 to 21 and 31, at the bounds that they and the Terms name: LADIES, THE TAPE, LAWS, PRICES. */
public final class BoundsOfLawsTest {
    private static final Check c = new Check();
    private static final String[] PARTS = {"known", "strange", "round", "least", "most"};
    private static final int[] LEAST = {0, 0, 1, 0, 0};
    private static final int[] MOST = {200, 200, 50, 999, 999};

    public static void main(String[] args) {
        promise13FiveLadies();
        promise14FirstAndLast();
        promise15EachSizeAtTheEnd();
        promise15BytesOfV();
        promise16EmptyAndFull();
        promise17NumbersOfEachPart();
        promise17WordsOfAllLetters();
        promise17EachByteAtTheBeginning();
        promise17EachByteBehindAWord();
        promise17EachByteBehindANumber();
        promise17EachByteBehindTheSign();
        promise17FullTape();
        promise17PlacesOfTheFault();
        promise17SixLaws();
        promise17IsEmptyEitherWay();
        promise18EachPart();
        promise19HundredthsAreCut();
        promise19Round();
        promise19LeastAndMost();
        promise19Lost();
        promise19EachKind();
        promise20Unpriced();
        promise21LeastAndMost();
        promise31LeastAndMost();
        c.end();
    }

    private static void promise13FiveLadies() {
        WhiteElephants x = new WhiteElephants();
        x.thing(0, 999, 0);
        x.thing(5, 999, 0);
        int[] knows = {0, 63, 1, 32, 62};
        for (int lady = 0; lady < 5; lady++) {
            c.due(x.status(1), lady);
            c.bad(x, () -> x.lady(64, 0));
            c.bad(x, () -> x.lady(0, 1000));
            c.due(x.lady(knows[lady], 2 * lady), lady);
        }
        c.refused(x, -6, () -> x.lady(0, 0));
        c.refused(x, -6, () -> x.lady(63, 999));
        c.bad(x, () -> x.lady(63, -1));
        for (int lady = 0; lady < 5; lady++) {
            c.due(x.thinks(lady, 0, false), (knows[lady] & 1) != 0 ? 999 : lady);
            c.due(x.thinks(lady, 1, false), (knows[lady] & 32) != 0 ? 999 : lady);
        }
    }

    private static void promise14FirstAndLast() {
        WhiteElephants x = new WhiteElephants();
        for (int lady = 0; lady < 5; lady++) {
            x.lady(1, 1);
            c.due(x.goes(lady, -1), -1);
        }
        c.bad(x, () -> x.goes(4, 0));
        for (int law = 0; law < 6; law++) {
            Check.law(x, "most " + law);
        }
        c.due(x.goes(0, 0), -1);
        c.due(x.goes(4, 5), -1);
        c.bad(x, () -> x.goes(4, 6));
        c.bad(x, () -> x.goes(4, -2));
        c.bad(x, () -> x.goes(5, 0));
        c.due(x.goes(0, 5), 0);
        c.due(x.goes(4, 0), 5);
        c.due(x.goes(4, 0), 0);
        c.due(x.goes(4, -1), 0);
        c.due(x.goes(0, -1), 5);
        c.due(x.goes(2, -1), -1);
    }

    /** THE TAPE with n blanks. */
    private static WhiteElephants blanks(int n) {
        WhiteElephants x = new WhiteElephants();
        for (int size = 0; size + 4 <= n; size += 4) {
            x.feed(0x20202020, 4);
        }
        for (int i = 0; i < n % 4; i++) {
            x.feed(0x20, 1);
        }
        return x;
    }

    private static void promise15EachSizeAtTheEnd() {
        for (int n = 1; n <= 4; n++) {
            int bytes = n;
            WhiteElephants fits = blanks(120 - n);
            c.due(fits.feed(0x20202020, n), 120);
            c.refused(fits, -6, () -> fits.feed(0, 1));
            c.refused(fits, -6, () -> fits.feed(0, bytes));
            c.due(fits.status(7), 120);
            WhiteElephants oneMore = blanks(121 - n);
            c.refused(oneMore, -6, () -> oneMore.feed(0x41414141, bytes));
            c.due(oneMore.status(7), 121 - n);
            c.bad(oneMore, () -> oneMore.feed(0, 0));
            c.bad(oneMore, () -> oneMore.feed(0, 5));
            // nothing of it came: what is there are blanks alone
            c.due(oneMore.law(), -20 - (121 - n));
            WhiteElephants none = new WhiteElephants();
            c.due(none.feed(0, n), n);
        }
    }

    private static void promise15BytesOfV() {
        // the highest of the n lowest first, what is above them left out
        for (int n = 1; n <= 4; n++) {
            String text = "most";
            int v = 0xfffefdfc;
            for (char sign : text.substring(4 - n).toCharArray()) {
                v = v << 8 | sign;
            }
            WhiteElephants x = new WhiteElephants();
            Check.feed(x, text.substring(0, 4 - n));
            c.due(x.feed(v, n), 4);
            Check.feed(x, "77");
            c.due(x.law(), 0);
            c.due(x.lawOf(0, 4), 77);
        }
        for (int v : new int[] {Integer.MIN_VALUE, Integer.MAX_VALUE, -1, 0}) {
            WhiteElephants x = new WhiteElephants();
            c.due(x.feed(v, 4), 4);
            c.due(x.law(), -20);
        }
    }

    private static void promise16EmptyAndFull() {
        WhiteElephants x = blanks(120);
        c.due(x.wipe(), 120);
        c.due(x.status(7), 0);
        c.due(x.wipe(), 0);
        c.due(x.feed('a', 1), 1);
        c.due(x.wipe(), 1);
        // there is room for 120 again
        for (int i = 1; i <= 30; i++) {
            c.due(x.feed(0x20202020, 4), 4 * i);
        }
        c.refused(x, -6, () -> x.feed(0x20, 1));
        c.due(x.wipe(), 120);
        c.due(x.law(), -20);
    }

    private static void dueLaw(String text, int part, int want) {
        WhiteElephants x = new WhiteElephants();
        c.due(Check.law(x, text), 0);
        c.due(x.lawOf(0, part), want);
        c.due(x.status(12), 0);
    }

    private static void dueFault(String text, int place) {
        WhiteElephants x = new WhiteElephants();
        c.due(Check.law(x, text), -20 - place);
        c.due(x.status(12), 1);
        c.due(x.status(2), 0);
        c.due(x.status(7), 0);
    }

    private static void promise17NumbersOfEachPart() {
        for (int part = 0; part < 5; part++) {
            int place = PARTS[part].length() + 1;
            for (int number = 0; number <= 1001; number++) {
                if (number >= LEAST[part] && number <= MOST[part]) {
                    dueLaw(PARTS[part] + " " + number, part, number);
                } else {
                    dueFault(PARTS[part] + " " + number, place);
                }
            }
            // three digits may be, four may not, whatever they tell
            dueLaw(PARTS[part] + " 001", part, 1);
            dueLaw(PARTS[part] + " 050", part, 50);
            dueFault(PARTS[part] + " 0001", place);
            dueFault(PARTS[part] + " 0050", place);
            dueFault(PARTS[part] + " 0000", place);
            dueFault(PARTS[part] + " 4294967297", place);
            dueFault(PARTS[part] + " 00000000000000000000000000000000000001", place);
        }
        dueLaw("known 000", 0, 0);
        dueFault("round 000", 6);
        dueLaw("least 999", 3, 999);
        dueFault("least 1000", 6);
    }

    /** A WORD is as long as can be, with all letters from a to z. */
    private static void promise17WordsOfAllLetters() {
        for (String word : PARTS) {
            for (char letter = 'a'; letter <= 'z'; letter++) {
                dueFault(word + letter + " 5", 0);
                dueFault(letter + word + " 5", 0);
                dueFault("most 5;" + word + letter + " 5", 7);
            }
            for (int n = 1; n < word.length(); n++) {
                dueFault(word.substring(0, n) + " 5", 0);
                dueFault(word.substring(n) + " 5", 0);
                dueFault(word.substring(0, n) + " " + word.substring(n) + " 5", 0);
            }
        }
        dueFault("z", 0);
        dueFault("a", 0);
    }

    private static WhiteElephants tape(String ahead, int b, String behind) {
        WhiteElephants x = new WhiteElephants();
        Check.feed(x, ahead);
        x.feed(b, 1);
        Check.feed(x, behind);
        return x;
    }

    private static void promise17EachByteAtTheBeginning() {
        for (int b = 0; b < 256; b++) {
            c.due(tape("", b, "").law(), b == ' ' ? -21 : -20);
            c.due(tape("", b, "least 5").law(), b == ' ' ? 0 : -20);
            c.due(tape("  ", b, "least 5").law(), b == ' ' ? 0 : -22);
        }
    }

    private static void promise17EachByteBehindAWord() {
        for (int b = 0; b < 256; b++) {
            boolean letter = b >= 'a' && b <= 'z';
            boolean digit = b >= '0' && b <= '9';
            WhiteElephants x = tape("least", b, "5");
            c.due(x.law(), letter ? -20 : digit || b == ' ' ? 0 : -25);
            c.due(x.lawOf(0, 3), letter ? -2 : digit ? 10 * (b - '0') + 5 : b == ' ' ? 5 : -2);
            c.due(tape("least", b, "").law(), letter ? -20 : digit ? 0 : b == ' ' ? -26 : -25);
        }
    }

    private static void promise17EachByteBehindANumber() {
        for (int b = 0; b < 256; b++) {
            boolean digit = b >= '0' && b <= '9';
            WhiteElephants x = tape("least 5", b, "");
            c.due(x.law(), digit || b == ' ' ? 0 : b == ';' ? -28 : -27);
            c.due(x.lawOf(0, 3), digit ? 50 + b - '0' : b == ' ' ? 5 : -2);
            c.due(tape("least 5", b, "most 6").law(), digit || b == ' ' ? -28 : b == ';' ? 0 : -27);
            // a fourth digit makes the NUMBER one that may not be, at its own place
            c.due(tape("least 555", b, "").law(), digit ? -26 : b == ' ' ? 0 : b == ';' ? -30 : -29);
        }
    }

    private static void promise17EachByteBehindTheSign() {
        for (int b = 0; b < 256; b++) {
            c.due(tape("least 5;", b, "").law(), b == ' ' ? -29 : -28);
            c.due(tape("least 5;", b, "most 6").law(), b == ' ' ? 0 : -28);
        }
    }

    private static void promise17FullTape() {
        // 19 STATEMENTS of 5 bytes and ; - then one of 6 bytes: 120 in all
        String many = "most9;".repeat(19);
        dueLaw(many + "most88", 4, 88);
        dueLaw(many + "most7 ", 4, 7);
        dueLaw(many + "most7", 4, 7);
        dueFault(many + "most7;", 120);
        dueFault(many + "most7x", 119);
        dueFault(many + " most ", 120);
        dueFault(many + "most;;", 118);
        dueFault(many + "mostly", 114);
        dueFault(many + ";", 114);
        dueFault(many, 114);
        dueLaw(" ".repeat(114) + "most88", 4, 88);
        dueLaw("most" + " ".repeat(113) + "123", 4, 123);
        dueLaw("most88" + " ".repeat(114), 4, 88);
        dueFault(" ".repeat(119) + "5", 119);
        dueFault(" ".repeat(120), 120);
        dueFault("most 5" + " ".repeat(113) + "5", 119);
        dueFault("most 5" + " ".repeat(113) + ";", 120);
        dueFault("a".repeat(120), 0);
        dueFault("5".repeat(120), 0);
        dueFault("most" + "5".repeat(116), 4);
        dueFault("most 5;" + "z".repeat(113), 7);
        dueFault(";".repeat(120), 0);
    }

    private static void promise17PlacesOfTheFault() {
        for (int ahead = 0; ahead <= 100; ahead++) {
            String blanks = " ".repeat(ahead);
            dueFault(blanks, ahead);
            dueFault(blanks + "?", ahead);
            dueFault(blanks + "least", ahead + 5);
            dueFault("least" + blanks, 5 + ahead);
            dueFault("least" + blanks + "x", ahead == 0 ? 0 : 5 + ahead);
            dueFault("least 5" + blanks + "x", 7 + ahead);
            dueFault("least 5;" + blanks, 8 + ahead);
        }
        // the first one counts
        dueFault("least 1000;least 1000;?", 6);
        dueFault("least 5;least 1000;?", 14);
        dueFault("? least", 0);
        dueFault("least ? 1000", 6);
    }

    private static void promise17SixLaws() {
        WhiteElephants x = new WhiteElephants();
        for (int law = 0; law < 6; law++) {
            c.due(x.status(2), law);
            c.due(Check.law(x, text(law)), law);
        }
        dueSixLaws(x);
        // FULL ahead of all: of an empty TAPE, of one with a FAULT, of a right one; each stays
        c.refused(x, -6, () -> x.law());
        Check.feed(x, "?");
        c.refused(x, -6, () -> x.law());
        c.due(x.wipe(), 1);
        Check.feed(x, "known 5");
        c.refused(x, -6, () -> x.law());
        c.refused(x, -6, () -> x.law());
        c.due(x.status(7), 7);
        c.due(x.status(2), 6);
        dueSixLaws(x);
    }

    private static String text(int law) {
        StringBuilder text = new StringBuilder();
        for (int part = 0; part < 5; part++) {
            text.append(part == 0 ? "" : ";").append(PARTS[part]).append(10 * law + part - (law == 5 ? 10 : 0) + 1);
        }
        return text.toString();
    }

    private static void dueSixLaws(WhiteElephants x) {
        for (int law = 0; law < 6; law++) {
            for (int part = 0; part < 5; part++) {
                c.due(x.lawOf(law, part), 10 * law + part - (law == 5 ? 10 : 0) + 1);
            }
        }
    }

    private static void promise17IsEmptyEitherWay() {
        WhiteElephants x = blanks(120);
        c.due(x.law(), -20 - 120);
        c.due(x.status(7), 0);
        c.due(x.wipe(), 0);
        c.due(Check.law(x, "most" + " ".repeat(115) + "5"), 0);
        c.due(x.status(7), 0);
        c.due(x.law(), -20);
        c.due(x.feed(0x6d6f7374, 4), 4);
        // what was told in a LAW ahead, or in one that was refused, is not told in the next
        c.due(x.wipe(), 4);
        c.due(Check.law(x, "known 7;strange 7;round 7;least 7;most 7;"), -20 - 41);
        c.due(Check.law(x, "known 8"), 1);
        int[] want = {8, 50, 1, 0, 999};
        for (int part = 0; part < 5; part++) {
            c.due(x.lawOf(1, part), want[part]);
        }
    }

    private static void promise18EachPart() {
        WhiteElephants x = new WhiteElephants();
        c.bad(x, () -> x.lawOf(0, 0));
        Check.law(x, "known 200;strange 200;round 50;least 999;most 999");
        Check.law(x, "known 0;strange 0;round 1;least 0;most 0");
        for (int part = 0; part < 5; part++) {
            c.due(x.lawOf(0, part), MOST[part]);
            c.due(x.lawOf(1, part), LEAST[part]);
        }
        c.bad(x, () -> x.lawOf(2, 0));
        c.bad(x, () -> x.lawOf(0, 5));
        c.bad(x, () -> x.lawOf(0, -1));
        // without a LAW: as at first, which is what a LAW tells that tells little
        Check.law(x, "most 999");
        int[] first = {100, 50, 1, 0, 999};
        for (int part = 0; part < 5; part++) {
            c.due(x.lawOf(2, part), first[part]);
        }
    }

    private static int thinks(int guess, int worth, String law, boolean knows, boolean lost) {
        WhiteElephants x = new WhiteElephants();
        x.lady(knows ? 1 : 62, guess);
        x.thing(0, worth, 0);
        if (!law.isEmpty()) {
            c.due(Check.law(x, law), 0);
            x.goes(0, 0);
        }
        return x.thinks(0, 0, lost);
    }

    private static void duePrice(int worth, String law, int want) {
        // the same of what she KNOWS and of what she does not
        c.due(thinks(0, worth, law.replace("part", "known"), true, false), want);
        c.due(thinks(worth, 0, law.replace("part", "strange"), false, false), want);
    }

    private static void promise19HundredthsAreCut() {
        duePrice(999, "part 0", 0);
        duePrice(0, "part 200", 0);
        duePrice(99, "part 1", 0);
        duePrice(100, "part 1", 1);
        duePrice(101, "part 99", 99);
        duePrice(1, "part 99", 0);
        duePrice(1, "part 100", 1);
        duePrice(1, "part 199", 1);
        duePrice(1, "part 200", 2);
        duePrice(499, "part 200", 998);
        duePrice(500, "part 200", 999);
        duePrice(999, "part 200", 999);
        duePrice(999, "part 100", 999);
        duePrice(999, "part 99", 989);
        // without a LAW: 100 and 50
        c.due(thinks(999, 999, "", true, false), 999);
        c.due(thinks(0, 0, "", true, false), 0);
        c.due(thinks(999, 999, "", false, false), 499);
        c.due(thinks(1, 999, "", false, false), 0);
        c.due(thinks(2, 999, "", false, false), 1);
        c.due(thinks(0, 999, "", false, false), 0);
        c.due(thinks(199, 0, "strange 50", false, false), 99);
    }

    private static void promise19Round() {
        duePrice(999, "part 100;round 1", 999);
        duePrice(999, "part 100;round 2", 998);
        duePrice(999, "part 100;round 49", 980);
        duePrice(999, "part 100;round 50", 950);
        duePrice(50, "part 100;round 50", 50);
        duePrice(49, "part 100;round 50", 0);
        duePrice(51, "part 100;round 50", 50);
        duePrice(99, "part 100;round 50", 50);
        duePrice(100, "part 100;round 50", 100);
        // least and most come behind the cut, and are no multiples
        duePrice(49, "part 100;round 50;least 7", 7);
        duePrice(999, "part 100;round 50;most 949", 949);
        duePrice(999, "part 200;round 50", 999);
    }

    private static void promise19LeastAndMost() {
        duePrice(49, "part 100;least 50", 50);
        duePrice(50, "part 100;least 50", 50);
        duePrice(51, "part 100;least 50", 51);
        duePrice(0, "part 100;least 999", 999);
        duePrice(51, "part 100;most 50", 50);
        duePrice(50, "part 100;most 50", 50);
        duePrice(49, "part 100;most 50", 49);
        duePrice(999, "part 100;most 0", 0);
        duePrice(999, "part 100;least 0;most 999", 999);
        // least first, then most
        duePrice(5, "part 100;least 60;most 40", 40);
        duePrice(50, "part 100;most 40;least 60", 40);
        duePrice(500, "part 100;least 60;most 40", 40);
        duePrice(5, "part 100;least 40;most 40", 40);
        duePrice(0, "part 100;least 999;most 998", 998);
    }

    private static void promise19Lost() {
        c.due(thinks(0, 50, "most 49", true, true), 1);
        c.due(thinks(0, 50, "most 50", true, true), 0);
        c.due(thinks(0, 50, "least 51", true, true), 0);
        c.due(thinks(0, 50, "known 200", true, true), 0);
        c.due(thinks(0, 999, "most 0", true, true), 999);
        c.due(thinks(0, 0, "least 999", true, true), 0);
        c.due(thinks(0, 0, "", true, true), 0);
        c.due(thinks(0, 999, "", false, true), 999);
        c.due(thinks(999, 500, "", false, true), 1);
        c.due(thinks(999, 499, "", false, true), 0);
        c.due(thinks(999, 498, "", false, true), 0);
    }

    private static void promise19EachKind() {
        for (int kind = 0; kind < 6; kind++) {
            for (int knows = 0; knows < 64; knows++) {
                WhiteElephants x = new WhiteElephants();
                x.thing(kind, 100, 128);
                x.lady(knows, 10);
                int worth = x.thingOf(0, 3);
                c.due(x.thinks(0, 0, false), (knows >> kind & 1) == 1 ? worth : 5);
            }
        }
    }

    private static void promise20Unpriced() {
        WhiteElephants x = new WhiteElephants();
        x.lady(63, 0);
        c.due(x.price(0, 63), 0);
        for (int t = 0; t < 30; t++) {
            x.thing(t % 6, 10 * t, 128);
        }
        // PRICED at 0 is PRICED; UNPRICED again is UNPRICED
        x.mark(0, 0);
        x.mark(6, 999);
        x.mark(12, 5);
        x.mark(12, -1);
        c.due(x.price(0, 0), 0);
        c.due(x.price(0, 1), 3);
        c.due(x.thingOf(0, 4), 0);
        c.due(x.thingOf(6, 4), 999);
        c.due(x.thingOf(12, 4), 120);
        c.due(x.thingOf(24, 4), 240);
        c.due(x.thingOf(1, 4), -1);
        c.due(x.price(0, 32), 5);
        c.due(x.price(0, 33), 0);
        c.due(x.thingOf(29, 4), 290);
        c.due(x.thingOf(28, 4), -1);
        c.due(x.price(0, 63), 20);
        c.due(x.price(0, 63), 0);
        WhiteElephants y = new WhiteElephants();
        for (int t = 0; t < 30; t++) {
            y.thing(5, 999, 0);
        }
        y.lady(0, 0);
        c.due(y.price(0, 31), 0);
        c.due(y.price(0, 63), 30);
        c.due(y.thingOf(29, 4), 0);
    }

    private static void promise21LeastAndMost() {
        WhiteElephants x = new WhiteElephants();
        for (int t = 0; t < 30; t++) {
            x.thing(0, t, 0);
        }
        for (int t : new int[] {0, 29}) {
            c.due(x.mark(t, -1), -1);
            c.due(x.mark(t, 0), -1);
            c.due(x.thingOf(t, 4), 0);
            c.due(x.mark(t, 0), 0);
            c.due(x.mark(t, 999), 0);
            c.due(x.thingOf(t, 4), 999);
            c.bad(x, () -> x.mark(t, 1000));
            c.bad(x, () -> x.mark(t, -2));
            c.due(x.mark(t, -1), 999);
            c.due(x.thingOf(t, 4), -1);
        }
        c.bad(x, () -> x.mark(30, 0));
        // SOLD at 0 is SOLD
        x.mark(29, 0);
        x.buyer(0, 0, 1, 0);
        c.due(x.go(1), 0);
        c.due(x.thingOf(29, 5), 0);
        c.due(x.thingOf(29, 6), 0);
        c.refused(x, -5, () -> x.mark(29, 0));
        c.due(x.mark(28, 7), -1);
    }

    private static void promise31LeastAndMost() {
        WhiteElephants x = new WhiteElephants();
        x.lady(0, 0);
        c.due(x.loses(0, 63), 0);
        for (int t = 0; t < 30; t++) {
            x.thing(3, 999, 0);
        }
        c.due(x.loses(0, 63), 30 * 1049);
        c.due(x.loses(0, 8), 30 * 1049);
        c.due(x.loses(0, 55), 0);
        c.due(x.loses(0, 0), 0);
        x.lady(8, 0);
        // she can't think more than 999
        c.due(x.loses(1, 63), 30 * 50);
        Check.law(x, "least 999");
        x.goes(0, 0);
        c.due(x.loses(0, 63), 30 * 50);
        WhiteElephants y = new WhiteElephants();
        for (int kind = 0; kind < 6; kind++) {
            y.thing(kind, 100 + kind, 255 - 1);
        }
        y.lady(0, 0);
        for (int kinds = 0; kinds < 64; kinds++) {
            int sum = 0;
            for (int kind = 0; kind < 6; kind++) {
                sum += (kinds >> kind & 1) * y.thingOf(kind, 3);
            }
            c.due(y.loses(0, kinds), sum);
        }
    }
}
