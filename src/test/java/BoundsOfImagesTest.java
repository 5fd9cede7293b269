/** Promises 47 to 49, at the bounds that they and the Terms name: what is kept, comes back, and is counted. */
public final class BoundsOfImagesTest {
    private static final Check c = new Check();

    public static void main(String[] args) {
        promise47ChangesNothing();
        promise47OfNothing();
        promise47OfAll();
        promise47TheLastOneCounts();
        promise48OfFirstAndLast();
        promise48SmallThenFullThenSmall();
        promise48AsksWhenFull();
        promise48FillsAgain();
        promise48NothingIsLeftOfWhatWas();
        promise48StuckTillAnImage();
        promise48ShelvesByThings();
        promise48TapeStays();
        promise49Counts();
        promise49Shelves();
        promise49Refusals();
        promise49RefusalsStay();
        c.end();
    }

    private static void promise47ChangesNothing() {
        new Scenes(c, x -> { }).dueButImage(x -> c.due(x.image(), 1));
        new Scenes(c, Scenes::some).dueButImage(x -> {
            Scenes.some(x);
            c.due(x.image(), 1);
        });
        new Scenes(c, Scenes::filled).dueButImage(x -> {
            Scenes.filled(x);
            c.due(x.image(), 1);
        });
        // nor does back() right behind it
        new Scenes(c, Scenes::filled).dueButImage(x -> {
            Scenes.filled(x);
            x.image();
            c.due(x.back(), 1);
        });
    }

    /** An image of nothing, then all is filled: nothing is there again. */
    private static void promise47OfNothing() {
        new Scenes(c, x -> x.image()).dueOf(x -> {
            x.image();
            Scenes.filled(x);
            c.due(x.back(), 1);
        });
    }

    /** What can still change when there are as many of all as may be. */
    private static void change(WhiteElephants x) {
        for (int t : new int[] {0, 1, 14, 26, 28, 29}) {
            for (int chip = 0; chip < 8; chip += 3) {
                x.chip(t, chip);
            }
            x.mark(t, 3);
        }
        for (int lady = 0; lady < 5; lady++) {
            x.goes(lady, 4 - lady);
        }
        for (int person = 0; person < 16; person++) {
            x.looks(person, 31);
        }
        x.turn(0, 1);
        x.turn(1, 2);
        x.go(2);
        x.morning();
        x.go(1);
        Check.law(x, "round 9");
    }

    private static void promise47OfAll() {
        Scenes filled = new Scenes(c, x -> {
            Scenes.filled(x);
            x.image();
        });
        filled.dueOf(x -> {
            Scenes.filled(x);
            x.image();
            change(x);
            c.due(x.back(), 1);
        });
        // once more: what came back does not lead to what is kept
        filled.dueOf(x -> {
            Scenes.filled(x);
            x.image();
            x.back();
            change(x);
            c.due(x.back(), 1);
        });
    }

    private static void promise47TheLastOneCounts() {
        new Scenes(c, x -> {
            Scenes.filled(x);
            change(x);
            x.image();
        }).dueOf(x -> {
            Scenes.filled(x);
            x.image();
            change(x);
            c.due(x.image(), 1);
            c.due(x.back(), 1);
        });
    }

    /** By numbers: all 30 THINGS are SOLD, all PURSES and so on change to the last, and come back. */
    private static void promise48OfFirstAndLast() {
        WhiteElephants x = new WhiteElephants();
        for (int t = 0; t < 30; t++) {
            x.thing(0, 999, 0);
            x.mark(t, 900 + t);
        }
        for (int b = 0; b < 12; b++) {
            x.buyer(0, 9000 + b, 1, 100);
        }
        for (int lady = 0; lady < 5; lady++) {
            x.lady(0, 0);
        }
        x.image();
        x.go(12);
        x.chip(29, 7);
        x.chip(0, 0);
        x.lady(0, 0);
        Check.law(x, "known 5");
        x.goes(4, 0);
        x.looks(15, 31);
        c.due(x.day(2), 30);
        c.due(x.back(), 1);
        c.due(x.day(0), 0);
        c.due(x.day(1), 0);
        c.due(x.day(2), 0);
        for (int t = 0; t < 30; t++) {
            c.due(x.thingOf(t, 2), 0);
            c.due(x.thingOf(t, 4), 900 + t);
            c.due(x.thingOf(t, 5), -1);
            c.due(x.thingOf(t, 6), -1);
        }
        for (int b = 0; b < 12; b++) {
            c.due(x.buyerOf(b, 1), 9000 + b);
            c.due(x.buyerOf(b, 4), 0);
        }
        c.due(x.status(2), 0);
        c.due(x.goes(4, -1), -1);
        c.due(x.looks(15, 0), 0);
        // kept when all is SOLD, it is so again, to the last
        x.go(12);
        x.chip(29, 7);
        Check.law(x, "known 5");
        x.goes(4, 0);
        x.looks(15, 31);
        x.image();
        x.chip(29, 6);
        x.chip(0, 0);
        x.goes(4, -1);
        x.looks(15, 0);
        x.morning();
        c.due(x.back(), 1);
        for (int t = 0; t < 30; t++) {
            c.due(x.thingOf(t, 2), t == 29 ? 128 : 0);
            c.due(x.thingOf(t, 5) >= 0 ? 1 : 0, 1);
            c.due(x.thingOf(t, 6), 900 + t);
        }
        c.due(x.day(0), 12);
        c.due(x.goes(4, -1), 0);
        c.due(x.looks(15, 0), 31);
        int bought = 0;
        for (int b = 0; b < 12; b++) {
            bought += x.buyerOf(b, 4);
        }
        c.due(bought, 30);
        c.due(x.buyerOf(11, 4), 2);
    }

    private static void small(WhiteElephants x) {
        x.thing(3, 77, 9);
        x.thing(4, 300, 0);
        x.lady(9, 44);
        Check.law(x, "known 70;round 3");
        x.goes(0, 0);
        x.price(0, 8);
        x.buyer(1, 600, 16, 150);
        x.table(24);
        x.sight(4, 4, 4, 4);
        x.secret(1, 4);
        x.looks(4, 9);
        x.turn(0, 8);
        x.turn(1, 11);
        x.go(3);
        x.image();
    }

    private static void promise48SmallThenFullThenSmall() {
        new Scenes(c, BoundsOfImagesTest::small).dueOf(x -> {
            small(x);
            Scenes.filled(x);
            for (int person = 0; person < 16; person++) {
                x.looks(person, 30);
            }
            x.chip(0, 4);
            x.mark(0, 5);
            x.mark(1, 6);
            x.go(12);
            x.morning();
            c.due(x.back(), 1);
        });
    }

    /** Questions that were asked of more THINGS, TABLES, SECRETS and so on leave nothing behind in later answers. */
    private static void promise48AsksWhenFull() {
        for (int part = 2; part <= 7; part++) {
            int asked = part;
            new Scenes(c, BoundsOfImagesTest::small).duePart(part, x -> {
                small(x);
                Scenes.filled(x);
                Told.part(x, asked);
                c.due(x.back(), 1);
            });
        }
        // two TABLES were planned, one comes back: what the second would lose is not counted
        WhiteElephants x = new WhiteElephants();
        x.thing(0, 100, 0);
        x.thing(5, 100, 0);
        x.lady(1, 0);
        x.lady(0, 100);
        x.lady(32, 0);
        x.table(1);
        x.image();
        x.table(33);
        c.due(x.who(-1), 50 + 50);
        c.due(x.who(0), 0);
        c.due(x.who(1), 1);
        x.back();
        c.due(x.who(-1), 0);
        c.due(x.who(0), 0);
    }

    private static void promise48FillsAgain() {
        // after an image of nothing came back, all can be filled as in a new object
        new Scenes(c, Scenes::filled).dueButImage(x -> {
            x.image();
            x.thing(5, 999, 255);
            x.mark(0, 0);
            x.lady(63, 999);
            Check.law(x, "known 0;strange 0;round 50;least 9;most 9");
            x.goes(0, 0);
            x.buyer(0, 9999, 63, 300);
            x.table(63);
            x.sight(99, 255, 15, 15);
            x.secret(0, 15);
            x.looks(15, 31);
            x.go(12);
            c.due(x.buyerOf(0, 4), 1);
            x.back();
            Scenes.filled(x);
        });
    }

    private static void promise48NothingIsLeftOfWhatWas() {
        WhiteElephants x = new WhiteElephants();
        x.image();
        x.thing(1, 50, 255);
        x.mark(0, 0);
        x.buyer(0, 9, 63, 300);
        x.lady(63, 9);
        Check.law(x, "known 5");
        x.goes(0, 0);
        x.go(12);
        c.due(x.thingOf(0, 5), 0);
        x.back();
        c.due(x.status(0), 0);
        c.bad(x, () -> x.thingOf(0, 0));
        c.bad(x, () -> x.buyerOf(0, 0));
        c.bad(x, () -> x.lawOf(0, 0));
        c.bad(x, () -> x.goes(0, -1));
        c.due(x.thing(5, 7, 0), 0);
        c.due(x.thingOf(0, 2), 0);
        c.due(x.thingOf(0, 4), -1);
        c.due(x.thingOf(0, 5), -1);
        c.due(x.thingOf(0, 6), -1);
        c.due(x.buyer(0, 9, 63, 300), 0);
        c.due(x.buyerOf(0, 4), 0);
        c.due(x.lady(63, 9), 0);
        c.due(x.thinks(0, 0, false), 7);
        c.due(x.goes(0, -1), -1);
        // THINGS that come by a ROW are new ones, too
        x.back();
        x.row(0, 2, 1);
        c.due(x.things(0, 1, 1), 1);
        c.due(x.thingOf(0, 2), 0);
        c.due(x.thingOf(0, 4), -1);
        c.due(x.thingOf(0, 5), -1);
    }

    private static void promise48StuckTillAnImage() {
        WhiteElephants x = new WhiteElephants();
        x.thing(0, 1, 0);
        for (int i = 1; i <= 3; i++) {
            c.refused(x, -5, () -> x.back());
            c.due(x.status(15), i);
        }
        c.due(x.status(0), 1);
        c.due(x.image(), 1);
        for (int i = 0; i < 3; i++) {
            c.due(x.back(), 1);
        }
        c.due(x.status(15), 3);
        c.due(x.status(0), 1);
    }

    private static void promise48ShelvesByThings() {
        for (int kept = 0; kept <= 30; kept++) {
            WhiteElephants x = new WhiteElephants();
            for (int t = 0; t < 30; t++) {
                if (t == kept) {
                    x.image();
                }
                x.thing(0, t, 0);
            }
            if (kept == 30) {
                x.image();
            }
            // the last THING that is kept, the first one that is not, on the first SHELVES and on the last
            int[] shown = {kept, kept - 1, 0, 29, 29, 0, kept - 1, kept};
            int held = 0;
            for (int s = 0; s < 8; s++) {
                if (shown[s] < 0 || shown[s] > 29) {
                    x.row(s, 3, 0);
                } else {
                    x.show(s, shown[s]);
                }
            }
            c.due(x.status(8), 8);
            c.due(x.back(), 1);
            for (int s = 0; s < 8; s++) {
                boolean row = shown[s] < 0 || shown[s] > 29;
                c.due(x.holds(s), row ? 3 : shown[s] < kept ? 10 + shown[s] : -1);
                held += row || shown[s] < kept ? 1 : 0;
            }
            c.due(x.status(8), held);
        }
    }

    private static void promise48TapeStays() {
        WhiteElephants x = new WhiteElephants();
        Check.feed(x, "most 1");
        x.image();
        for (int i = 0; i < 114; i++) {
            x.feed('2', 1);
        }
        c.due(x.back(), 1);
        c.due(x.status(7), 120);
        c.due(x.wipe(), 120);
        c.due(x.back(), 1);
        c.due(x.status(7), 0);
        Check.feed(x, "most 44");
        x.back();
        c.due(x.law(), 0);
        c.due(x.lawOf(0, 4), 44);
        // the image has no LAW
        c.due(x.back(), 1);
        c.due(x.status(2), 0);
    }

    private static void promise49Counts() {
        WhiteElephants x = new WhiteElephants();
        int[] empty = {0, 0, 0, 0, 0, 0, 0, 0, 0};
        int[] full = {30, 5, 6, 12, 5, 20, 10, 120, 8};
        for (int what = 0; what <= 8; what++) {
            c.due(x.status(what), empty[what]);
        }
        Scenes.full(x);
        for (int what = 0; what <= 8; what++) {
            c.due(x.status(what), full[what]);
        }
        // what is refused for FULL counts in 16 alone
        c.refused(x, -6, () -> x.thing(0, 0, 0));
        c.refused(x, -6, () -> x.lady(0, 0));
        c.refused(x, -6, () -> x.law());
        c.refused(x, -6, () -> x.buyer(0, 0, 0, 0));
        c.refused(x, -6, () -> x.table(0));
        c.refused(x, -6, () -> x.sight(0, 0, 0, 0));
        c.refused(x, -6, () -> x.secret(0, 0));
        c.refused(x, -6, () -> x.feed(0, 1));
        for (int what = 0; what <= 8; what++) {
            c.due(x.status(what), full[what]);
        }
        c.due(x.status(16), 8);
        for (int what : new int[] {-2, -1, 9, 10, 11, 17, 100, Integer.MIN_VALUE, Integer.MAX_VALUE}) {
            c.due(x.status(what), -1);
        }
    }

    private static void promise49Shelves() {
        WhiteElephants x = new WhiteElephants();
        x.thing(0, 0, 0);
        for (int s = 0; s < 8; s++) {
            c.due(x.status(8), s);
            if (s % 2 == 0) {
                x.row(s, 0, 0);
            } else {
                x.show(s, 0);
            }
        }
        c.due(x.status(8), 8);
        for (int s = 0; s < 8; s++) {
            // one thing for another: as many SHELVES
            x.row(s, 1, 40);
            x.show(s, 0);
            c.due(x.status(8), 8 - s);
            x.show(s, -1);
            c.due(x.status(8), 7 - s);
        }
    }

    private static void promise49Refusals() {
        WhiteElephants x = new WhiteElephants();
        x.thing(0, 0, 0);
        x.show(0, 0);
        for (int lady = 0; lady < 5; lady++) {
            x.lady(0, 0);
        }
        for (int i = 1; i <= 60; i++) {
            x.day(4);
            x.judge(0);
            x.judge(1);
            x.back();
            x.lady(0, 0);
        }
        for (int what = 12; what <= 16; what++) {
            c.due(x.status(what), 60);
        }
        c.due(x.status(11), -1);
        c.due(x.status(17), -1);
        // asking, or what is no refusal, counts none
        x.element(-1, -1);
        x.holds(-1);
        x.shortBy(1);
        x.takings(0, 0);
        x.costs(0, 0);
        x.things(0, 0, 0);
        c.due(x.status(12), 60);
        c.due(x.status(13), 61);
        c.due(x.status(14), 60);
        c.due(x.status(15), 60);
        c.due(x.status(16), 60);
    }

    private static void promise49RefusalsStay() {
        WhiteElephants x = new WhiteElephants();
        x.back();
        x.image();
        x.day(4);
        x.back();
        c.due(x.status(12), 1);
        c.due(x.status(15), 1);
        x.image();
        x.day(4);
        c.due(x.status(12), 2);
        x.back();
        c.due(x.status(12), 2);
        // a FAULT is BAD
        x.law();
        c.due(x.status(12), 3);
        x.back();
        c.due(x.status(12), 3);
    }
}
