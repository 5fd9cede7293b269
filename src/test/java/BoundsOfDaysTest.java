/** Promises 22 to 30 and 32 to 34, at the bounds that they and the Terms name: BUYERS, HOURS, TAKINGS, THE DAY. */
public final class BoundsOfDaysTest {
    private static final Check c = new Check();

    public static void main(String[] args) {
        promise22TwelveBuyers();
        promise23EachPart();
        promise24EachHour();
        promise25EachHour();
        promise25HalvesAreCut();
        promise26FromItsHourOn();
        promise26Purse();
        promise26Gain();
        promise26Eye();
        promise26FirstOfSeveral();
        promise26WhatIsPricedAndNotSold();
        promise26Wishes();
        promise26ByHalfAndBag();
        promise27EachHalfAndBag();
        promise27NoneAndMost();
        promise27OneThingAnHour();
        promise28Ends();
        promise28HalfNoLaterThanBag();
        promise29EachHour();
        promise29Elements();
        promise30EachKind();
        promise30NoneAndMost();
        promise32EachN();
        promise32LastHour();
        promise32AllOfThirty();
        promise33EmptyAndFull();
        promise34EachHour();
        c.end();
    }

    private static void promise22TwelveBuyers() {
        WhiteElephants x = new WhiteElephants();
        for (int b = 0; b < 12; b++) {
            c.due(x.status(3), b);
            c.bad(x, () -> x.buyer(12, 0, 0, 0));
            c.due(x.buyer(11 - b, 9999 - b, 63 - b, 300 - b), b);
        }
        c.refused(x, -6, () -> x.buyer(0, 0, 0, 0));
        c.bad(x, () -> x.buyer(0, 0, 0, 301));
        for (int b = 0; b < 12; b++) {
            c.due(x.buyerOf(b, 0), 11 - b);
            c.due(x.buyerOf(b, 1), 9999 - b);
            c.due(x.buyerOf(b, 2), 63 - b);
            c.due(x.buyerOf(b, 3), 300 - b);
            c.due(x.buyerOf(b, 4), 0);
        }
        int[][] bounds = {{0, 11}, {0, 9999}, {0, 63}, {0, 300}};
        for (int part = 0; part < 4; part++) {
            for (int end = 0; end < 2; end++) {
                WhiteElephants y = new WhiteElephants();
                int[] of = {3, 50, 1, 100};
                of[part] = bounds[part][end];
                c.due(y.buyer(of[0], of[1], of[2], of[3]), 0);
                c.due(y.buyerOf(0, part), of[part]);
                of[part] += end == 0 ? -1 : 1;
                c.bad(y, () -> y.buyer(of[0], of[1], of[2], of[3]));
                c.due(y.status(3), 1);
            }
        }
    }

    /** A THING of KIND 0 for each pair of a WORTH and a PRICE. */
    private static WhiteElephants offers(int... worthsAndPrices) {
        WhiteElephants x = new WhiteElephants();
        for (int i = 0; i < worthsAndPrices.length; i += 2) {
            int t = x.thing(0, worthsAndPrices[i], 0);
            x.mark(t, worthsAndPrices[i + 1]);
        }
        return x;
    }

    private static void promise23EachPart() {
        WhiteElephants x = offers(100, 100, 100, 100);
        x.buyer(11, 200, 1, 100);
        c.due(x.go(11), 0);
        c.due(x.buyerOf(0, 1), 200);
        c.due(x.buyerOf(0, 4), 0);
        c.due(x.go(1), 100);
        c.due(x.buyerOf(0, 1), 100);
        c.due(x.buyerOf(0, 4), 1);
        x.morning();
        x.go(12);
        c.due(x.buyerOf(0, 0), 11);
        c.due(x.buyerOf(0, 1), 0);
        c.due(x.buyerOf(0, 2), 1);
        c.due(x.buyerOf(0, 3), 100);
        c.due(x.buyerOf(0, 4), 2);
        c.bad(x, () -> x.buyerOf(0, 5));
        c.bad(x, () -> x.buyerOf(0, -1));
        c.bad(x, () -> x.buyerOf(1, 0));
    }

    private static void promise24EachHour() {
        WhiteElephants x = new WhiteElephants();
        for (int what = 0; what <= 1; what++) {
            int turn = what;
            for (int hour = 0; hour <= 12; hour++) {
                c.due(x.turn(what, hour), hour == 0 ? 12 : hour - 1);
            }
            c.bad(x, () -> x.turn(turn, 13));
            c.bad(x, () -> x.turn(turn, -1));
            c.due(x.turn(what, 12), 12);
        }
        c.bad(x, () -> x.turn(2, 0));
        c.bad(x, () -> x.turn(-1, 0));
        // HALF later than BAG may be, and neither changes the other
        c.due(x.turn(0, 11), 12);
        c.due(x.turn(1, 0), 12);
        c.due(x.turn(0, 0), 11);
        c.due(x.turn(1, 1), 0);
    }

    private static void promise25EachHour() {
        for (int half = 0; half <= 12; half++) {
            for (int bag = 0; bag <= 12; bag++) {
                WhiteElephants x = offers(0, 99);
                x.turn(0, half);
                x.turn(1, bag);
                for (int hour = 0; hour < 12; hour++) {
                    c.due(x.costs(0, hour), hour >= bag ? 10 : hour >= half ? 49 : 99);
                }
                c.bad(x, () -> x.costs(0, 12));
                c.bad(x, () -> x.costs(0, -1));
            }
        }
    }

    private static void promise25HalvesAreCut() {
        WhiteElephants x = offers(0, 0, 0, 1, 0, 2, 0, 999, 0, 998);
        x.thing(0, 0, 0);
        x.turn(0, 6);
        x.turn(1, 11);
        int[] prices = {0, 1, 2, 999, 998, -1};
        int[] halves = {0, 0, 1, 499, 499, -1};
        for (int t = 0; t <= 5; t++) {
            c.due(x.costs(t, 0), prices[t]);
            c.due(x.costs(t, 5), prices[t]);
            c.due(x.costs(t, 6), halves[t]);
            c.due(x.costs(t, 10), halves[t]);
            // 10 in the BAG, also what was cheaper
            c.due(x.costs(t, 11), t == 5 ? -1 : 10);
        }
        c.due(x.status(12), 0);
        c.bad(x, () -> x.costs(6, 0));
    }

    private static void promise26FromItsHourOn() {
        for (int from = 0; from < 12; from++) {
            WhiteElephants x = offers(5, 5);
            x.buyer(from, 5, 1, 100);
            for (int hour = 0; hour < 12; hour++) {
                c.due(x.takes(0, hour), hour >= from ? 0 : -1);
            }
            c.bad(x, () -> x.takes(0, 12));
            c.bad(x, () -> x.takes(0, -1));
            c.due(x.takings(12, 12), 5);
        }
        WhiteElephants x = offers(5, 5);
        for (int b = 0; b < 12; b++) {
            x.buyer(0, 5, b % 2, 100);
        }
        c.due(x.takes(11, 11), 0);
        c.due(x.takes(10, 11), -1);
        c.bad(x, () -> x.takes(12, 0));
    }

    private static void promise26Purse() {
        for (int price : new int[] {0, 1, 500, 999}) {
            WhiteElephants x = offers(999, price);
            x.buyer(0, price, 1, 100);
            c.due(x.takes(0, 0), 0);
            x.buyer(0, price + 1, 1, 100);
            c.due(x.takes(1, 0), 0);
            if (price > 0) {
                x.buyer(0, price - 1, 1, 100);
                c.due(x.takes(2, 0), -1);
            }
        }
        // of a BAG: 10 can be paid, 9 can't
        WhiteElephants x = offers(999, 0);
        x.turn(1, 3);
        x.buyer(0, 10, 1, 100);
        x.buyer(0, 9, 1, 100);
        c.due(x.takes(0, 3), 0);
        c.due(x.takes(1, 3), -1);
        c.due(x.takes(1, 2), 0);
    }

    private static void promise26Gain() {
        // GAINS of 1, 0 and -1
        for (int worth : new int[] {0, 1, 100, 999}) {
            WhiteElephants x = offers(worth, worth);
            x.buyer(0, 9999, 1, 100);
            c.due(x.takes(0, 0), 0);
            if (worth > 0) {
                x.mark(0, worth - 1);
                c.due(x.takes(0, 0), 0);
            }
            if (worth < 999) {
                x.mark(0, worth + 1);
                c.due(x.takes(0, 0), -1);
            }
        }
        // of a BAG: who gains 0 takes it, who gains -1 does not
        WhiteElephants x = offers(10, 999);
        x.turn(1, 0);
        x.buyer(0, 9999, 1, 100);
        c.due(x.takes(0, 0), 0);
        x.buyer(0, 9999, 1, 99);
        c.due(x.takes(1, 0), -1);
    }

    private static void promise26Eye() {
        // 300 hundredths of 333 are 999; 0 hundredths of all are 0
        WhiteElephants x = offers(333, 999);
        x.buyer(0, 9999, 1, 300);
        c.due(x.takes(0, 0), 0);
        x.buyer(0, 9999, 1, 299);
        c.due(x.takes(1, 0), -1);
        x.buyer(0, 9999, 1, 0);
        c.due(x.takes(2, 0), -1);
        x.mark(0, 1);
        c.due(x.takes(2, 0), -1);
        x.mark(0, 0);
        c.due(x.takes(2, 0), 0);
        // cut: 1 hundredth of 99 is 0, of 100 it is 1; 199 of 1 are 1
        WhiteElephants y = offers(99, 1);
        y.buyer(0, 9999, 1, 1);
        c.due(y.takes(0, 0), -1);
        WhiteElephants z = offers(100, 1);
        z.buyer(0, 9999, 1, 1);
        c.due(z.takes(0, 0), 0);
        WhiteElephants w = offers(1, 1, 1, 2);
        w.buyer(0, 9999, 1, 199);
        c.due(w.takes(0, 0), 0);
        w.mark(0, -1);
        c.due(w.takes(0, 0), -1);
        w.buyer(0, 9999, 1, 200);
        c.due(w.takes(1, 0), 1);
        // hundredths are cut ahead of the cost: 150 of 101 and of 100 are 151 and 150
        WhiteElephants v = offers(101, 51, 100, 50);
        v.buyer(0, 9999, 1, 150);
        c.due(v.takes(0, 0), 0);
    }

    private static void promise26FirstOfSeveral() {
        WhiteElephants x = offers(50, 40, 60, 49, 70, 60, 80, 70, 90, 79);
        x.buyer(0, 9999, 1, 100);
        // GAINS of 10, 11, 10, 10, 11
        c.due(x.takes(0, 0), 1);
        x.mark(1, 50);
        c.due(x.takes(0, 0), 4);
        x.mark(4, 80);
        c.due(x.takes(0, 0), 0);
        x.mark(0, -1);
        c.due(x.takes(0, 0), 1);
        // the one of most GAIN that it can't pay is passed over, for the first of the others
        WhiteElephants y = offers(999, 500, 60, 50, 60, 50);
        y.buyer(0, 499, 1, 100);
        c.due(y.takes(0, 0), 1);
        y.buyer(0, 500, 1, 100);
        c.due(y.takes(1, 0), 0);
        WhiteElephants z = new WhiteElephants();
        for (int t = 0; t < 30; t++) {
            z.thing(0, 5, 0);
            z.mark(t, t == 29 ? 4 : 5);
        }
        z.buyer(0, 5, 1, 100);
        c.due(z.takes(0, 0), 29);
        z.mark(29, 5);
        c.due(z.takes(0, 0), 0);
    }

    private static void promise26WhatIsPricedAndNotSold() {
        WhiteElephants x = new WhiteElephants();
        x.buyer(0, 9999, 63, 300);
        c.due(x.takes(0, 0), -1);
        x.thing(0, 999, 0);
        c.due(x.takes(0, 0), -1);
        x.mark(0, 0);
        c.due(x.takes(0, 0), 0);
        x.go(1);
        c.due(x.takes(0, 0), -1);
        c.due(x.takes(0, 11), -1);
        x.morning();
        c.due(x.takes(0, 0), -1);
    }

    private static void promise26Wishes() {
        for (int kind = 0; kind < 6; kind++) {
            WhiteElephants x = new WhiteElephants();
            x.thing(kind, 100, 0);
            x.mark(0, 1);
            x.buyer(0, 9999, 1 << kind, 100);
            x.buyer(0, 9999, 63 - (1 << kind), 100);
            x.buyer(0, 9999, 0, 100);
            x.buyer(0, 9999, 63, 100);
            c.due(x.takes(0, 0), 0);
            c.due(x.takes(1, 0), -1);
            c.due(x.takes(2, 0), -1);
            c.due(x.takes(3, 0), 0);
        }
    }

    private static void promise26ByHalfAndBag() {
        WhiteElephants x = offers(50, 101);
        x.buyer(0, 50, 1, 100);
        c.due(x.takes(0, 11), -1);
        x.turn(0, 11);
        c.due(x.takes(0, 10), -1);
        // half of 101 is 50
        c.due(x.takes(0, 11), 0);
        x.turn(0, 12);
        x.turn(1, 11);
        c.due(x.takes(0, 10), -1);
        c.due(x.takes(0, 11), 0);
        x.turn(1, 0);
        c.due(x.takes(0, 0), 0);
    }

    private static void promise27EachHalfAndBag() {
        // it comes in HOUR 5, when it can pay and gains by HALF or BAG alone
        for (int half = 0; half <= 12; half++) {
            for (int bag = 0; bag <= 12; bag++) {
                WhiteElephants x = offers(50, 99);
                x.buyer(5, 9999, 1, 100);
                int first = Math.max(5, Math.min(half, bag));
                c.due(x.takings(half, bag), first == 12 ? 0 : first >= bag ? 10 : 49);
            }
        }
        WhiteElephants x = new WhiteElephants();
        c.bad(x, () -> x.takings(13, 12));
        c.bad(x, () -> x.takings(12, 13));
        c.bad(x, () -> x.takings(-1, 12));
        c.bad(x, () -> x.takings(12, -1));
    }

    /** 30 THINGS of WORTH and PRICE 999, and 12 BUYERS who have 9999. */
    private static WhiteElephants dearest() {
        WhiteElephants x = new WhiteElephants();
        for (int t = 0; t < 30; t++) {
            x.thing(0, 999, 0);
            x.mark(t, 999);
        }
        for (int b = 0; b < 12; b++) {
            x.buyer(0, 9999, 1, 300);
        }
        return x;
    }

    private static void promise27NoneAndMost() {
        WhiteElephants x = new WhiteElephants();
        c.due(x.takings(0, 12), 0);
        x.buyer(0, 9999, 63, 300);
        c.due(x.takings(0, 12), 0);
        WhiteElephants y = offers(999, 1);
        c.due(y.takings(0, 12), 0);
        WhiteElephants z = dearest();
        c.due(z.takings(12, 12), 30 * 999);
        c.due(z.takings(0, 12), 30 * 499);
        c.due(z.takings(0, 0), 30 * 10);
        // 12 in HOUR 0, then 12 and 6 at half the PRICE, or in the BAG
        c.due(z.takings(1, 12), 12 * 999 + 18 * 499);
        c.due(z.takings(1, 2), 12 * 999 + 12 * 499 + 6 * 10);
        c.due(z.takings(2, 2), 24 * 999 + 6 * 10);
        c.due(z.takings(3, 3), 30 * 999);
    }

    private static void promise27OneThingAnHour() {
        for (int from = 0; from < 12; from++) {
            WhiteElephants x = dearest();
            WhiteElephants y = offers(9, 9, 9, 9, 9, 9, 9, 9, 9, 9, 9, 9, 9, 9, 9, 9, 9, 9, 9, 9, 9, 9, 9, 9, 9, 9);
            y.buyer(from, 9999, 1, 100);
            c.due(y.takings(12, 12), 9 * (12 - from));
            c.due(y.takings(12, 11), 9 * (11 - from));
            c.due(x.takings(12, 12), 30 * 999);
        }
        // PURSES: ten of 999 can be paid from 9999, then 9 are left
        WhiteElephants z = new WhiteElephants();
        for (int t = 0; t < 30; t++) {
            z.thing(0, 999, 0);
            z.mark(t, t == 29 ? 9 : 999);
        }
        z.buyer(0, 9999, 1, 100);
        c.due(z.takings(12, 12), 9999);
        z.mark(29, 10);
        c.due(z.takings(12, 12), 10 + 9 * 999);
    }

    private static void promise28Ends() {
        // nothing is taken by any: the latest of both
        c.due(new WhiteElephants().best(), 1212);
        c.due(dearest().best(), 1212);
        // who comes in HOUR 11 pays by a HALF of 11; who comes in 0 alone, by one of 0
        WhiteElephants x = offers(50, 99);
        x.buyer(11, 9999, 1, 100);
        c.due(x.best(), 1112);
        c.due(x.takings(11, 12), 49);
        WhiteElephants y = offers(5, 999);
        y.buyer(11, 9999, 1, 200);
        c.due(y.best(), 1111);
        // twelve HOURS are needed for twelve THINGS, all at half their PRICES
        WhiteElephants z = new WhiteElephants();
        for (int t = 0; t < 12; t++) {
            z.thing(0, 50, 0);
            z.mark(t, 99);
        }
        z.buyer(0, 9999, 1, 100);
        c.due(z.best(), 12);
        c.due(z.takings(0, 12), 12 * 49);
        z.buyer(0, 9999, 1, 100);
        c.due(z.best(), 612);
    }

    private static void promise28HalfNoLaterThanBag() {
        // a BAG of 0 is the best, so that HALF must be 0 too
        WhiteElephants x = new WhiteElephants();
        for (int t = 0; t < 12; t++) {
            x.thing(0, 10, 0);
            x.mark(t, 3);
        }
        x.buyer(0, 9999, 1, 100);
        c.due(x.takings(12, 0), 120);
        c.due(x.best(), 0);
        // from HOUR 4 on: HALF and BAG 4, the latest of both
        WhiteElephants y = new WhiteElephants();
        for (int t = 0; t < 8; t++) {
            y.thing(0, 10, 0);
            y.mark(t, 3);
        }
        y.buyer(4, 9999, 1, 100);
        c.due(y.best(), 404);
        // what HALF and BAG are now is all the same, and stays
        y.turn(0, 7);
        y.turn(1, 2);
        c.due(y.best(), 404);
        c.due(y.turn(0, 0), 7);
        c.due(y.turn(1, 0), 2);
    }

    private static void promise29EachHour() {
        // one THING for 7 in each HOUR; a ROW that tells so but for one HOUR
        for (int wrong = 0; wrong < 12; wrong++) {
            WhiteElephants x = offers(9, 7, 9, 7, 9, 7, 9, 7, 9, 7, 9, 7, 9, 7, 9, 7, 9, 7, 9, 7, 9, 7, 9, 7);
            x.buyer(0, 9999, 1, 100);
            x.row(0, 3, 40);
            for (int hour = 0; hour < 40; hour++) {
                x.set(0, hour, 7);
            }
            c.due(x.judge(0), -1);
            for (int told : new int[] {6, 8, 0, -7}) {
                x.set(0, wrong, told);
                c.due(x.judge(0), wrong);
                if (wrong < 11) {
                    x.set(0, 11, 0);
                    c.due(x.judge(0), wrong);
                    x.set(0, 11, 7);
                }
            }
            x.set(0, wrong, 7 + (1L << 32));
            c.due(x.judge(0), wrong);
        }
    }

    private static void promise29Elements() {
        // as many elements as HOURS, one less, one more; none
        for (int n = 0; n <= 40; n++) {
            WhiteElephants x = offers(9, 7, 9, 7, 9, 7, 9, 7, 9, 7, 9, 7, 9, 7, 9, 7, 9, 7, 9, 7, 9, 7, 9, 7);
            x.buyer(0, 9999, 1, 100);
            x.row(7, 0, n);
            for (int i = 0; i < n; i++) {
                x.set(7, i, i < 12 ? 7 : 1);
            }
            c.due(x.judge(7), n < 12 ? n : -1);
        }
        // nothing is taken: missing elements are 0
        for (int n = 0; n <= 13; n++) {
            WhiteElephants x = new WhiteElephants();
            x.row(0, 3, n);
            c.due(x.judge(0), -1);
        }
        // a ROW of booleans can tell 1
        WhiteElephants x = offers(9, 1);
        x.buyer(3, 9999, 1, 100);
        x.row(0, 4, 4);
        c.due(x.judge(0), 3);
        x.set(0, 3, 99);
        c.due(x.judge(0), -1);
        // by HALF and BAG as they are, and from HOUR 0, whatever HOUR is next
        x.turn(1, 0);
        c.due(x.judge(0), 3);
        x.turn(1, 4);
        c.due(x.judge(0), -1);
        x.go(12);
        x.row(0, 4, 4);
        c.due(x.judge(0), -1);
    }

    private static void promise30EachKind() {
        WhiteElephants x = new WhiteElephants();
        for (int kind = 0; kind < 6; kind++) {
            x.thing(kind, 100 + kind, 128);
        }
        int[] want = {100, 91, 92, 93, 104, 105};
        for (int kind = 0; kind < 6; kind++) {
            c.due(x.rest(kind), want[kind]);
        }
        c.due(x.rest(-1), 585);
        c.bad(x, () -> x.rest(-2));
        c.bad(x, () -> x.rest(6));
        // PRICED or not is all the same; SOLD is not LEFT
        x.mark(0, 1);
        c.due(x.rest(0), 100);
        x.buyer(0, 1, 1, 100);
        x.go(1);
        c.due(x.rest(0), 0);
        c.due(x.rest(-1), 485);
    }

    private static void promise30NoneAndMost() {
        WhiteElephants x = new WhiteElephants();
        for (int kind = -1; kind < 6; kind++) {
            c.due(x.rest(kind), 0);
        }
        for (int t = 0; t < 30; t++) {
            x.thing(3, 999, 0);
        }
        c.due(x.rest(3), 30 * 1049);
        c.due(x.rest(2), 0);
        c.due(x.rest(-1), 30 * 1049);
        WhiteElephants y = dearest();
        y.go(12);
        c.due(y.rest(-1), 0);
    }

    private static void promise32EachN() {
        for (int n = 1; n <= 12; n++) {
            WhiteElephants x = offers(9, 7, 9, 7, 9, 7, 9, 7, 9, 7, 9, 7, 9, 7, 9, 7, 9, 7, 9, 7, 9, 7, 9, 7);
            x.buyer(0, 9999, 1, 100);
            c.due(x.go(n), 7 * n);
            c.due(x.day(0), n);
            c.due(x.day(1), 7 * n);
            c.due(x.day(2), n);
            // on, till 11 is over
            if (n < 12) {
                c.due(x.go(12), 7 * (12 - n));
            }
            c.due(x.day(0), 12);
            c.due(x.day(1), 84);
            c.refused(x, -5, () -> x.go(1));
            c.bad(x, () -> x.go(0));
            c.bad(x, () -> x.go(13));
            c.due(x.day(1), 84);
        }
    }

    private static void promise32LastHour() {
        for (int n : new int[] {1, 2, 12}) {
            WhiteElephants x = offers(9, 7, 9, 6);
            x.buyer(11, 9999, 1, 100);
            c.due(x.go(11), 0);
            c.due(x.day(0), 11);
            c.due(x.go(n), 6);
            c.due(x.day(0), 12);
            c.due(x.thingOf(1, 5), 0);
            c.due(x.thingOf(0, 5), -1);
            c.refused(x, -5, () -> x.go(n));
        }
        // HALF and BAG of 11 count in the last HOUR, of 12 in none
        for (int turn = 10; turn <= 12; turn++) {
            WhiteElephants x = offers(50, 99);
            x.buyer(0, 9999, 1, 100);
            x.turn(0, turn);
            c.due(x.go(10), 0);
            c.due(x.go(1), turn == 10 ? 49 : 0);
            c.due(x.go(1), turn == 11 ? 49 : 0);
        }
    }

    private static void promise32AllOfThirty() {
        WhiteElephants x = dearest();
        c.due(x.go(1), 12 * 999);
        for (int b = 0; b < 12; b++) {
            // by numbers: the first BUYER takes the first THING
            c.due(x.thingOf(b, 5), b);
            c.due(x.buyerOf(b, 4), 1);
        }
        c.due(x.go(12), 18 * 999);
        c.due(x.thingOf(29, 5), 5);
        c.due(x.thingOf(29, 6), 999);
        c.due(x.buyerOf(5, 4), 3);
        c.due(x.buyerOf(6, 4), 2);
        c.due(x.buyerOf(5, 1), 9999 - 3 * 999);
        c.due(x.day(1), 30 * 999);
        c.due(x.day(2), 30);
        c.due(x.day(3), 0);
        // a PURSE may come to 0, and then takes what costs 0
        WhiteElephants y = offers(9, 9, 9, 0, 9, 1);
        y.buyer(0, 9, 1, 300);
        c.due(y.go(1), 0);
        c.due(y.go(1), 1);
        c.due(y.go(1), 0);
        c.due(y.thingOf(0, 5), -1);
        c.due(y.buyerOf(0, 1), 8);
        y.mark(0, 8);
        c.due(y.go(1), 8);
        c.due(y.buyerOf(0, 1), 0);
        y.thing(0, 0, 0);
        y.mark(3, 0);
        c.due(y.go(1), 0);
        c.due(y.thingOf(3, 5), 0);
        c.due(y.buyerOf(0, 4), 4);
    }

    private static void promise33EmptyAndFull() {
        WhiteElephants x = new WhiteElephants();
        int[] atFirst = {0, 0, 0, 0};
        for (int what = 0; what <= 3; what++) {
            c.due(x.day(what), atFirst[what]);
        }
        c.due(x.go(12), 0);
        c.due(x.day(0), 12);
        WhiteElephants y = dearest();
        c.due(y.day(3), 30);
        y.go(12);
        c.due(y.day(3), 0);
        c.due(y.day(2), 30);
        c.bad(y, () -> y.day(-1));
        c.bad(y, () -> y.day(4));
        // what is UNPRICED is LEFT too
        WhiteElephants z = new WhiteElephants();
        z.thing(0, 0, 0);
        c.due(z.day(3), 1);
        c.due(z.day(2), 0);
    }

    private static void promise34EachHour() {
        for (int hour = 0; hour <= 12; hour++) {
            WhiteElephants x = offers(9, 7);
            x.buyer(0, 9999, 1, 100);
            if (hour > 0) {
                x.go(hour);
            }
            c.due(x.day(1), hour == 0 ? 0 : 7);
            c.due(x.morning(), hour);
            c.due(x.day(0), 0);
            c.due(x.day(1), 0);
            c.due(x.day(2), hour == 0 ? 0 : 1);
            c.due(x.morning(), 0);
            c.due(x.go(1), hour == 0 ? 7 : 0);
            c.due(x.morning(), 1);
            c.due(x.status(12), 0);
        }
        // HALF and BAG stay, and so do PURSES and what was bought
        WhiteElephants x = offers(9, 7);
        x.buyer(0, 9999, 1, 100);
        x.turn(0, 3);
        x.turn(1, 4);
        x.go(12);
        x.morning();
        c.due(x.turn(0, 12), 3);
        c.due(x.turn(1, 12), 4);
        c.due(x.buyerOf(0, 1), 9992);
        c.due(x.buyerOf(0, 4), 1);
        c.due(x.thingOf(0, 6), 7);
    }
}
