/** Promises 13 to 21 and 31: LADIES, LAWS, PRICES. */
public final class LawsTest {
    private static final Check c = new Check();

    public static void main(String[] args) {
        promise13Lady();
        promise14Goes();
        promises15And16FeedAndWipe();
        promise17LawReads();
        promise17LawFaults();
        promise17LawCounts();
        promise18LawOf();
        promise19Thinks();
        promise20Price();
        promise21Mark();
        promise31Loses();
        c.end();
    }

    private static void promise13Lady() {
        WhiteElephants x = new WhiteElephants();
        c.bad(x, () -> x.lady(-1, 0));
        c.bad(x, () -> x.lady(64, 0));
        c.bad(x, () -> x.lady(0, -1));
        c.bad(x, () -> x.lady(0, 1000));
        c.due(x.lady(0, 0), 0);
        c.due(x.lady(63, 999), 1);
        c.due(x.lady(1, 1), 2);
        c.due(x.lady(1, 1), 3);
        c.due(x.lady(1, 1), 4);
        c.due(x.status(1), 5);
        c.bad(x, () -> x.lady(64, 0));
        c.refused(x, -6, () -> x.lady(0, 0));
        c.due(x.status(1), 5);
    }

    private static void promise14Goes() {
        WhiteElephants x = new WhiteElephants();
        x.lady(1, 10);
        x.lady(1, 10);
        c.bad(x, () -> x.goes(0, 0));
        c.due(Check.law(x, "known 10"), 0);
        c.due(Check.law(x, "known 20"), 1);
        c.due(x.goes(0, 1), -1);
        c.due(x.goes(0, 0), 1);
        c.due(x.goes(1, 0), -1);
        c.due(x.goes(0, -1), 0);
        c.due(x.goes(0, -1), -1);
        c.bad(x, () -> x.goes(-1, 0));
        c.bad(x, () -> x.goes(2, 0));
        c.bad(x, () -> x.goes(1, 2));
        c.bad(x, () -> x.goes(1, -2));
        c.due(x.goes(1, -1), 0);
    }

    private static void promises15And16FeedAndWipe() {
        WhiteElephants x = new WhiteElephants();
        c.bad(x, () -> x.feed(65, 0));
        c.bad(x, () -> x.feed(65, 5));
        c.bad(x, () -> x.feed(65, -1));
        // 'least' ' ' '7', the highest byte of each first, what is above the told bytes left out
        c.due(x.feed(0x6c656173, 4), 4);
        c.due(x.feed(0x7a7a7420, 2), 6);
        c.due(x.feed(0x7a7a7a37, 1), 7);
        c.due(x.status(7), 7);
        c.due(x.law(), 0);
        c.due(x.lawOf(0, 3), 7);
        c.due(x.feed(0x203b6d6f, 3), 3);
        c.due(x.wipe(), 3);
        c.due(x.wipe(), 0);
        for (int i = 1; i <= 29; i++) {
            c.due(x.feed(0x20202020, 4), 4 * i);
        }
        c.due(x.feed(0x202020, 3), 119);
        c.refused(x, -6, () -> x.feed(0x2020, 2));
        c.refused(x, -6, () -> x.feed(0x20202020, 4));
        c.bad(x, () -> x.feed(0x20202020, 5));
        c.due(x.status(7), 119);
        c.due(x.feed(0x20, 1), 120);
        c.refused(x, -6, () -> x.feed(0x20, 1));
        c.due(x.law(), -20 - 120);
        c.due(x.status(7), 0);
        Check.feed(x, "known 5");
        c.due(x.wipe(), 7);
        c.due(x.law(), -20);
    }

    private static void dueLaw(String text, int known, int strange, int round, int least, int most) {
        WhiteElephants x = new WhiteElephants();
        c.due(Check.law(x, text), 0);
        c.due(x.lawOf(0, 0), known);
        c.due(x.lawOf(0, 1), strange);
        c.due(x.lawOf(0, 2), round);
        c.due(x.lawOf(0, 3), least);
        c.due(x.lawOf(0, 4), most);
        c.due(x.status(7), 0);
        c.due(x.status(12), 0);
    }

    private static void promise17LawReads() {
        dueLaw("known 90", 90, 50, 1, 0, 999);
        dueLaw("known 0;strange 200;round 50;least 999;most 0", 0, 200, 50, 999, 0);
        dueLaw("known 200;strange 0;round 1;least 0;most 999", 200, 0, 1, 0, 999);
        dueLaw("  known   7  ;  round 2  ", 7, 50, 2, 0, 999);
        dueLaw("known7;round8", 7, 50, 8, 0, 999);
        dueLaw("known 007;least 010", 7, 50, 1, 10, 999);
        dueLaw("known 5;known 6;known 9", 9, 50, 1, 0, 999);
    }

    private static void dueFault(String text, int place) {
        WhiteElephants x = new WhiteElephants();
        c.due(Check.law(x, text), -20 - place);
        c.due(x.status(12), 1);
        c.due(x.status(7), 0);
        c.due(x.status(2), 0);
    }

    private static void promise17LawFaults() {
        dueFault("", 0);
        dueFault("   ", 3);
        dueFault("known", 5);
        dueFault("known  ", 7);
        dueFault("known 5;", 8);
        dueFault("known 5; ", 9);
        dueFault("known 5;least", 13);
        dueFault(";known 5", 0);
        dueFault("known 5;;known 6", 8);
        dueFault("known ; 5", 6);
        dueFault("known least 5", 6);
        dueFault("known 5 6", 8);
        dueFault("known 5 least 6", 8);
        dueFault("known 5least 6", 7);
        dueFault(" 5 known", 1);
        dueFault("knows 5", 0);
        dueFault("knownn 5", 0);
        dueFault("know n 5", 0);
        dueFault("mos 5", 0);
        dueFault("knownleast 5", 0);
        dueFault("Known 5", 0);
        dueFault("known 5;Least 5", 8);
        dueFault("known -5", 6);
        dueFault("known 5.", 7);
        dueFault("known\t5", 5);
        dueFault("known 5;" + (char) 235 + "least 5", 8);
        dueFault((char) 0 + "known 5", 0);
        dueFault("\r", 0);
        dueFault("known 5\n", 7);
        dueFault("known 5;\r", 8);
        dueFault("known 201", 6);
        dueFault("strange 201", 8);
        dueFault("round 51", 6);
        dueFault("round 0", 6);
        dueFault("least 1000", 6);
        dueFault("most 1000", 5);
        dueFault("known 0005", 6);
        dueFault("known 99999999999999999999", 6);
        dueFault("known 201;x", 6);
        dueFault("known 5{", 7);
        dueFault("known 5`", 7);
        dueFault("known 5/", 7);
        dueFault("known 5:", 7);
    }

    private static void promise17LawCounts() {
        WhiteElephants x = new WhiteElephants();
        for (int i = 0; i < 6; i++) {
            // a LAW that fails in between leaves nothing behind
            c.bad(x, () -> Check.law(x, "round 7;known 1;x") + 34);
            c.due(Check.law(x, "known " + i), i);
        }
        for (int i = 0; i < 6; i++) {
            c.due(x.lawOf(i, 0), i);
            c.due(x.lawOf(i, 2), 1);
        }
        c.due(x.status(2), 6);
        Check.feed(x, "known x");
        c.refused(x, -6, () -> x.law());
        c.due(x.status(7), 7);
        c.due(x.status(2), 6);
    }

    private static void promise18LawOf() {
        WhiteElephants x = new WhiteElephants();
        c.bad(x, () -> x.lawOf(0, 0));
        c.bad(x, () -> x.lawOf(-1, 0));
        Check.law(x, "known 1;strange 2;round 3;least 4;most 5");
        Check.law(x, "known 6;strange 7;round 8;least 9;most 10");
        for (int what = 0; what < 5; what++) {
            c.due(x.lawOf(0, what), what + 1);
            c.due(x.lawOf(1, what), what + 6);
        }
        c.bad(x, () -> x.lawOf(2, 0));
        c.bad(x, () -> x.lawOf(0, 5));
        c.bad(x, () -> x.lawOf(0, -1));
    }

    private static void promise19Thinks() {
        WhiteElephants x = new WhiteElephants();
        x.thing(0, 120, 0);
        x.thing(2, 300, 5);
        x.thing(3, 999, 0);
        x.lady(17, 61);
        c.due(x.thinks(0, 0, false), 120);
        c.due(x.thinks(0, 0, true), 0);
        // VASE is under THING, but she KNOWS a THING's own KIND alone: half her GUESS, cut
        c.due(x.thinks(0, 1, false), 30);
        c.due(x.thinks(0, 1, true), 90);
        Check.law(x, "known 80;strange 150;round 5;least 10");
        x.goes(0, 0);
        c.due(x.thinks(0, 0, false), 95);
        c.due(x.thinks(0, 0, true), 25);
        c.due(x.thinks(0, 1, false), 90);
        c.due(x.thinks(0, 1, true), 30);
        Check.law(x, "known 3;round 4;least 9");
        x.goes(0, 1);
        c.due(x.thinks(0, 0, false), 9);
        Check.law(x, "most 5;least 9");
        x.goes(0, 2);
        c.due(x.thinks(0, 0, false), 5);
        x.lady(63, 0);
        c.due(x.thinks(1, 2, false), 999);
        c.due(x.thinks(1, 2, true), 50);
        Check.law(x, "known 200;round 50");
        x.goes(1, 3);
        // 2098 is cut to 2050 before the most is at most
        c.due(x.thinks(1, 2, false), 999);
        c.due(x.thinks(1, 0, false), 200);
        c.due(x.thinks(1, 0, true), 0);
        x.goes(1, -1);
        c.due(x.thinks(1, 0, false), 120);
        c.bad(x, () -> x.thinks(-1, 0, false));
        c.bad(x, () -> x.thinks(2, 0, false));
        c.bad(x, () -> x.thinks(0, -1, true));
        c.bad(x, () -> x.thinks(0, 3, true));
        c.due(x.thingOf(0, 4), -1);
    }

    private static void promise20Price() {
        WhiteElephants x = new WhiteElephants();
        x.thing(0, 100, 0);
        x.thing(2, 100, 0);
        x.thing(3, 100, 0);
        x.thing(0, 50, 0);
        x.lady(4, 60);
        x.mark(3, 7);
        c.bad(x, () -> x.price(-1, 63));
        c.bad(x, () -> x.price(1, 63));
        c.bad(x, () -> x.price(0, -1));
        c.bad(x, () -> x.price(0, 64));
        c.due(x.price(0, 0), 0);
        // KINDS are told one by one: CHINA's bit brings no VASE
        c.due(x.price(0, 2), 0);
        c.due(x.price(0, 5), 2);
        c.due(x.thingOf(0, 4), 30);
        c.due(x.thingOf(1, 4), 100);
        c.due(x.thingOf(2, 4), -1);
        c.due(x.thingOf(3, 4), 7);
        c.due(x.price(0, 63), 1);
        c.due(x.thingOf(2, 4), 30);
        c.due(x.price(0, 63), 0);
    }

    private static void promise21Mark() {
        WhiteElephants x = new WhiteElephants();
        x.thing(0, 100, 0);
        x.thing(0, 100, 0);
        c.due(x.mark(0, 0), -1);
        c.due(x.mark(0, 999), 0);
        c.due(x.mark(0, -1), 999);
        c.due(x.mark(0, 20), -1);
        c.bad(x, () -> x.mark(-1, 0));
        c.bad(x, () -> x.mark(2, 0));
        c.bad(x, () -> x.mark(0, 1000));
        c.bad(x, () -> x.mark(0, -2));
        x.buyer(0, 100, 1, 100);
        x.go(1);
        c.bad(x, () -> x.mark(0, 1000));
        c.refused(x, -5, () -> x.mark(0, 5));
        c.refused(x, -5, () -> x.mark(0, -1));
        c.due(x.thingOf(0, 4), 20);
        c.due(x.mark(1, 5), -1);
    }

    private static void promise31Loses() {
        WhiteElephants x = new WhiteElephants();
        x.thing(0, 120, 0);
        x.thing(2, 300, 5);
        x.thing(3, 200, 128);
        x.thing(4, 350, 0);
        x.thing(5, 40, 0);
        x.thing(1, 90, 2);
        x.lady(14, 30);
        c.due(x.loses(0, 63), 105 + 185 + 25);
        c.due(x.loses(0, 14), 0);
        c.due(x.loses(0, 16), 185);
        c.due(x.loses(0, 0), 0);
        // by what she thinks, whatever the PRICES are, and of THINGS that are SOLD too
        x.mark(3, 200);
        x.buyer(0, 999, 16, 100);
        x.go(1);
        c.due(x.day(2), 1);
        c.due(x.loses(0, 16), 185);
        c.bad(x, () -> x.loses(-1, 0));
        c.bad(x, () -> x.loses(1, 0));
        c.bad(x, () -> x.loses(0, -1));
        c.bad(x, () -> x.loses(0, 64));
    }
}
