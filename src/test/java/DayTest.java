/** Promises 22 to 30 and 32 to 34: BUYERS, what a DAY would bring, and THE DAY under way. */
public final class DayTest {
    private static final Check c = new Check();

    public static void main(String[] args) {
        promise22Buyer();
        promise23BuyerOf();
        promise24Turn();
        promise25Costs();
        promise26Takes();
        promise26TakesByPurseAndGain();
        promise26TakesOfGainsThatAreCut();
        promise26TakesInHoursThatAreOver();
        promise27Takings();
        promise27TakingsLeaveAllAsItIs();
        promise28Best();
        promise28BestOfSeveral();
        promise28BestOfAllAsItIs();
        promise29Judge();
        promise30Rest();
        promise32Go();
        promise32GoBuyerByBuyer();
        promise32GoByNumbersNotByHours();
        promises33And34DayAndMorning();
        c.end();
    }

    private static void promise22Buyer() {
        WhiteElephants x = new WhiteElephants();
        c.bad(x, () -> x.buyer(-1, 0, 0, 0));
        c.bad(x, () -> x.buyer(12, 0, 0, 0));
        c.bad(x, () -> x.buyer(0, -1, 0, 0));
        c.bad(x, () -> x.buyer(0, 10000, 0, 0));
        c.bad(x, () -> x.buyer(0, 0, -1, 0));
        c.bad(x, () -> x.buyer(0, 0, 64, 0));
        c.bad(x, () -> x.buyer(0, 0, 0, -1));
        c.bad(x, () -> x.buyer(0, 0, 0, 301));
        c.due(x.status(3), 0);
        c.due(x.buyer(0, 0, 0, 0), 0);
        c.due(x.buyer(11, 9999, 63, 300), 1);
        for (int b = 2; b < 12; b++) {
            c.due(x.buyer(b, b, b, b), b);
        }
        c.due(x.status(3), 12);
        c.bad(x, () -> x.buyer(12, 0, 0, 0));
        c.refused(x, -6, () -> x.buyer(0, 0, 0, 0));
        c.due(x.status(3), 12);
    }

    private static void promise23BuyerOf() {
        WhiteElephants x = new WhiteElephants();
        x.buyer(3, 70, 1, 150);
        x.thing(0, 20, 0);
        x.thing(0, 20, 0);
        x.mark(0, 15);
        x.mark(1, 25);
        x.go(5);
        c.due(x.buyerOf(0, 0), 3);
        c.due(x.buyerOf(0, 1), 70 - 15 - 25);
        c.due(x.buyerOf(0, 2), 1);
        c.due(x.buyerOf(0, 3), 150);
        c.due(x.buyerOf(0, 4), 2);
        c.bad(x, () -> x.buyerOf(-1, 0));
        c.bad(x, () -> x.buyerOf(1, 0));
        c.bad(x, () -> x.buyerOf(0, -1));
        c.bad(x, () -> x.buyerOf(0, 5));
    }

    private static void promise24Turn() {
        WhiteElephants x = new WhiteElephants();
        c.due(x.turn(0, 9), 12);
        c.due(x.turn(1, 3), 12);
        c.due(x.turn(0, 0), 9);
        c.due(x.turn(1, 12), 3);
        c.bad(x, () -> x.turn(-1, 0));
        c.bad(x, () -> x.turn(2, 0));
        c.bad(x, () -> x.turn(0, -1));
        c.bad(x, () -> x.turn(1, 13));
        c.due(x.turn(0, 0), 0);
        c.due(x.turn(1, 0), 12);
    }

    private static void promise25Costs() {
        WhiteElephants x = new WhiteElephants();
        x.thing(0, 100, 0);
        x.thing(0, 100, 0);
        x.thing(0, 100, 0);
        x.mark(0, 55);
        x.mark(1, 3);
        c.due(x.costs(0, 0), 55);
        c.due(x.costs(0, 11), 55);
        c.due(x.costs(2, 0), -1);
        x.turn(0, 4);
        x.turn(1, 8);
        c.due(x.costs(0, 3), 55);
        c.due(x.costs(0, 4), 27);
        c.due(x.costs(0, 7), 27);
        c.due(x.costs(0, 8), 10);
        c.due(x.costs(0, 11), 10);
        c.due(x.costs(1, 4), 1);
        c.due(x.costs(1, 8), 10);
        c.due(x.costs(2, 8), -1);
        // BAG goes ahead of a HALF that comes later
        x.turn(1, 2);
        c.due(x.costs(0, 1), 55);
        c.due(x.costs(0, 2), 10);
        c.due(x.costs(0, 4), 10);
        x.turn(1, 12);
        // what is SOLD still costs what it is PRICED at
        x.buyer(0, 99, 1, 100);
        x.go(1);
        c.due(x.thingOf(1, 5), 0);
        c.due(x.costs(1, 0), 3);
        c.bad(x, () -> x.costs(-1, 0));
        c.bad(x, () -> x.costs(3, 0));
        c.bad(x, () -> x.costs(0, -1));
        c.bad(x, () -> x.costs(0, 12));
    }

    private static void promise26Takes() {
        WhiteElephants x = new WhiteElephants();
        x.thing(0, 100, 0);
        x.thing(2, 100, 0);
        x.thing(0, 300, 0);
        x.buyer(2, 200, 1, 100);
        x.buyer(0, 200, 2, 100);
        x.buyer(0, 200, 4, 100);
        c.due(x.takes(0, 5), -1);
        x.mark(0, 90);
        x.mark(1, 10);
        c.due(x.takes(0, 1), -1);
        c.due(x.takes(0, 2), 0);
        c.due(x.takes(0, 11), 0);
        c.due(x.takes(1, 0), -1);
        c.due(x.takes(2, 0), 1);
        c.due(x.day(2), 0);
        x.go(1);
        c.due(x.takes(2, 1), -1);
        c.bad(x, () -> x.takes(-1, 0));
        c.bad(x, () -> x.takes(3, 0));
        c.bad(x, () -> x.takes(0, -1));
        c.bad(x, () -> x.takes(0, 12));
    }

    private static void promise26TakesByPurseAndGain() {
        WhiteElephants x = new WhiteElephants();
        x.thing(0, 100, 0);
        x.thing(0, 101, 0);
        x.thing(0, 200, 0);
        x.mark(0, 50);
        x.mark(1, 51);
        x.mark(2, 120);
        x.buyer(0, 119, 1, 100);
        // equal GAINS of 50: the first; the one of 80 is too dear, until its PURSE reaches
        c.due(x.takes(0, 0), 0);
        x.buyer(0, 120, 1, 100);
        c.due(x.takes(1, 0), 2);
        // an EYE of 50: GAINS of 0, -1, -20; nothing below 0 is taken
        x.buyer(0, 200, 1, 50);
        c.due(x.takes(2, 0), 0);
        x.mark(0, 51);
        c.due(x.takes(2, 0), -1);
        // EYE's hundredths are cut: 49 of 101 is 49.49
        x.buyer(0, 200, 1, 49);
        x.mark(1, 49);
        c.due(x.takes(3, 0), 1);
        x.mark(1, 50);
        c.due(x.takes(3, 0), -1);
        x.buyer(0, 200, 1, 0);
        c.due(x.takes(4, 0), -1);
        x.mark(1, 0);
        c.due(x.takes(4, 0), 1);
        x.buyer(0, 0, 1, 300);
        c.due(x.takes(5, 0), 1);
        // by HALF and BAG as they are
        x.turn(0, 3);
        x.turn(1, 6);
        x.buyer(0, 60, 1, 100);
        c.due(x.takes(6, 0), 1);
        c.due(x.takes(6, 3), 2);
        c.due(x.takes(6, 6), 2);
        x.mark(1, -1);
        c.due(x.takes(6, 0), 0);
        c.due(x.takes(5, 6), -1);
    }

    private static void promise26TakesOfGainsThatAreCut() {
        WhiteElephants x = new WhiteElephants();
        x.thing(0, 100, 0);
        x.thing(0, 101, 0);
        x.mark(0, 41);
        x.mark(1, 41);
        // 51 of 101 is 51.51: cut, both GAINS are 10, and the first is taken
        x.buyer(0, 100, 1, 51);
        c.due(x.takes(0, 0), 0);
        x.buyer(0, 100, 1, 100);
        c.due(x.takes(1, 0), 1);
    }

    private static void promise26TakesInHoursThatAreOver() {
        WhiteElephants x = new WhiteElephants();
        x.thing(0, 100, 0);
        x.thing(0, 100, 0);
        x.mark(0, 30);
        x.buyer(0, 100, 1, 100);
        c.due(x.go(6), 30);
        x.mark(1, 40);
        c.due(x.takes(0, 0), 1);
        c.due(x.takes(0, 5), 1);
        c.due(x.takes(0, 6), 1);
        x.go(12);
        c.due(x.day(0), 12);
        x.morning();
        x.thing(0, 100, 0);
        x.mark(2, 25);
        c.due(x.takes(0, 11), 2);
    }

    private static void promise27Takings() {
        WhiteElephants x = new WhiteElephants();
        x.thing(0, 100, 0);
        x.thing(0, 100, 0);
        x.thing(0, 100, 0);
        x.mark(0, 80);
        x.mark(1, 120);
        x.buyer(10, 500, 1, 100);
        // two HOURS are there, one THING is worth it; the one that is UNPRICED is not for sale
        c.due(x.takings(12, 12), 80);
        c.due(x.takings(11, 12), 80 + 60);
        c.due(x.takings(10, 12), 40 + 60);
        c.due(x.takings(0, 11), 40 + 10);
        c.due(x.takings(0, 0), 20);
        c.due(x.takings(12, 0), 20);
        c.due(x.takings(12, 11), 80 + 10);
        c.bad(x, () -> x.takings(-1, 0));
        c.bad(x, () -> x.takings(13, 0));
        c.bad(x, () -> x.takings(0, -1));
        c.bad(x, () -> x.takings(0, 13));
    }

    private static void promise27TakingsLeaveAllAsItIs() {
        WhiteElephants x = new WhiteElephants();
        for (int t = 0; t < 4; t++) {
            x.thing(0, 100, 0);
            x.mark(t, 50);
        }
        x.buyer(0, 130, 1, 100);
        x.buyer(0, 60, 1, 100);
        c.due(x.takings(12, 12), 150);
        c.due(x.takings(12, 12), 150);
        c.due(x.day(2), 0);
        c.due(x.buyerOf(0, 1), 130);
        c.due(x.buyerOf(0, 4), 0);
        c.due(x.thingOf(0, 5), -1);
        x.go(1);
        // from HOUR 0, whatever HOUR is next, with what is left in the PURSES
        c.due(x.takings(12, 12), 50);
        c.due(x.takings(0, 12), 50);
        x.go(11);
        c.due(x.takings(12, 12), 0);
        c.due(x.takings(12, 0), 10);
    }

    private static void promise28Best() {
        WhiteElephants x = new WhiteElephants();
        x.thing(0, 100, 0);
        x.thing(0, 100, 0);
        x.thing(0, 100, 0);
        x.mark(0, 90);
        x.mark(1, 150);
        x.mark(2, 300);
        x.buyer(0, 500, 1, 100);
        // 90 in HOUR 0, then 75 by a HALF from 1 to 10, then 10 by a BAG in 11 at the latest
        c.due(x.best(), 1011);
        c.due(x.takings(10, 11), 175);
        c.due(x.turn(0, 12), 12);
        c.due(x.turn(1, 12), 12);
    }

    private static void promise28BestOfSeveral() {
        WhiteElephants x = new WhiteElephants();
        x.thing(0, 100, 0);
        x.mark(0, 90);
        x.buyer(0, 500, 1, 100);
        c.due(x.best(), 1212);
        x.mark(0, 110);
        c.due(x.best(), 1112);
        // 10 by a HALF or by a BAG: the latest HALF goes first, then the latest BAG
        WhiteElephants y = new WhiteElephants();
        y.thing(0, 10, 0);
        y.mark(0, 21);
        y.buyer(0, 500, 1, 100);
        c.due(y.best(), 1112);
        WhiteElephants z = new WhiteElephants();
        z.thing(0, 10, 0);
        z.mark(0, 90);
        z.buyer(4, 500, 1, 100);
        c.due(z.best(), 1111);
        // HALF may be no later than BAG: (12, 0) brings as much, and is no answer
        WhiteElephants w = new WhiteElephants();
        w.thing(0, 10, 0);
        w.mark(0, 2);
        w.buyer(0, 10, 1, 100);
        c.due(w.takings(12, 0), 10);
        c.due(w.takings(0, 0), 10);
        c.due(w.best(), 0);
        // in HOURS 10 and 11: 15, then 10 by the BAG; or 7, then 18 by HALF: the latest HALF, though the BAG is earlier
        WhiteElephants v = new WhiteElephants();
        v.thing(0, 15, 0);
        v.thing(0, 18, 0);
        v.mark(0, 15);
        v.mark(1, 36);
        v.buyer(10, 25, 1, 100);
        c.due(v.takings(11, 11), 15 + 10);
        c.due(v.takings(10, 12), 7 + 18);
        c.due(v.takings(11, 12), 15);
        c.due(v.takings(10, 11), 7 + 10);
        c.due(v.best(), 1111);
    }

    private static void promise28BestOfAllAsItIs() {
        WhiteElephants x = new WhiteElephants();
        x.thing(1, 100, 0);
        x.thing(1, 100, 0);
        x.mark(0, 100);
        x.buyer(0, 500, 2, 100);
        c.due(x.best(), 1212);
        // a CHIP makes it too dear, another PRICE does not
        x.chip(0, 3);
        c.due(x.best(), 1112);
        x.mark(0, 90);
        c.due(x.best(), 1212);
        x.image();
        x.lady(2, 0);
        Check.law(x, "known 150");
        x.goes(0, 0);
        c.due(x.best(), 1212);
        c.due(x.price(0, 2), 1);
        c.due(x.thingOf(1, 4), 150);
        c.due(x.best(), 1112);
        x.back();
        c.due(x.best(), 1212);
        x.mark(1, 150);
        c.due(x.best(), 1112);
        // what is SOLD is out, and an empty PURSE buys nothing
        c.due(x.go(1), 90);
        x.mark(1, 900);
        c.due(x.best(), 1111);
        x.turn(1, 1);
        c.due(x.go(1), 10);
        c.due(x.best(), 1212);
    }

    private static void promise29Judge() {
        WhiteElephants x = new WhiteElephants();
        x.thing(0, 100, 0);
        x.thing(0, 100, 0);
        x.mark(0, 80);
        x.mark(1, 120);
        x.buyer(2, 500, 1, 100);
        x.turn(0, 5);
        x.row(0, 2, 12);
        c.due(x.judge(0), 2);
        x.set(0, 2, 80);
        c.due(x.judge(0), 5);
        x.set(0, 5, 60);
        c.due(x.judge(0), -1);
        x.set(0, 11, 1);
        c.due(x.judge(0), 11);
        x.set(0, 0, 1);
        c.due(x.judge(0), 0);
        // missing elements are 0; further ones are not looked at
        x.row(1, 1, 3);
        x.set(1, 2, 80);
        c.due(x.judge(1), 5);
        x.row(1, 3, 6);
        x.set(1, 2, 80);
        x.set(1, 5, 60);
        c.due(x.judge(1), -1);
        x.set(1, 5, (1L << 32) + 60);
        c.due(x.judge(1), 5);
        x.row(2, 3, 14);
        x.set(2, 2, 80);
        x.set(2, 5, 60);
        x.set(2, 12, 9);
        c.due(x.judge(2), -1);
        c.due(x.day(2), 0);
        x.turn(1, 3);
        c.due(x.judge(2), 3);
        x.row(3, 0, 0);
        c.due(x.judge(3), 2);
        x.show(4, 0);
        c.bad(x, () -> x.judge(-1));
        c.bad(x, () -> x.judge(8));
        c.refused(x, -3, () -> x.judge(4));
        c.refused(x, -4, () -> x.judge(5));
    }

    private static void promise30Rest() {
        WhiteElephants x = new WhiteElephants();
        x.thing(0, 120, 0);
        x.thing(1, 90, 2);
        x.thing(2, 300, 5);
        x.thing(2, 100, 0);
        x.thing(4, 350, 0);
        // of the KIND itself: a VASE does not count as CHINA here
        c.due(x.rest(0), 120);
        c.due(x.rest(1), 81);
        c.due(x.rest(2), 220);
        c.due(x.rest(3), 0);
        c.due(x.rest(4), 200);
        c.due(x.rest(-1), 621);
        x.mark(3, 10);
        c.due(x.rest(-1), 621);
        x.buyer(0, 10, 4, 100);
        x.go(1);
        c.due(x.rest(2), 120);
        c.due(x.rest(-1), 521);
        c.bad(x, () -> x.rest(-2));
        c.bad(x, () -> x.rest(6));
    }

    private static void promise32Go() {
        WhiteElephants x = new WhiteElephants();
        x.thing(0, 100, 0);
        x.thing(0, 100, 0);
        x.thing(0, 100, 0);
        x.mark(0, 80);
        x.mark(1, 120);
        x.buyer(1, 500, 1, 100);
        x.turn(0, 5);
        c.bad(x, () -> x.go(0));
        c.bad(x, () -> x.go(13));
        c.bad(x, () -> x.go(-1));
        c.due(x.go(1), 0);
        c.due(x.day(0), 1);
        c.due(x.go(4), 80);
        c.due(x.day(0), 5);
        c.due(x.thingOf(0, 5), 0);
        c.due(x.thingOf(0, 6), 80);
        c.due(x.thingOf(1, 5), -1);
        // what is changed on the way counts from then on
        x.turn(1, 7);
        c.due(x.go(1), 60);
        c.due(x.thingOf(1, 6), 60);
        c.due(x.thingOf(1, 4), 120);
        x.mark(2, 500);
        c.due(x.go(1), 0);
        c.due(x.go(12), 10);
        c.due(x.day(0), 12);
        c.due(x.thingOf(2, 6), 10);
        c.due(x.buyerOf(0, 1), 500 - 150);
        c.due(x.buyerOf(0, 4), 3);
        c.bad(x, () -> x.go(13));
        c.refused(x, -5, () -> x.go(1));
        c.due(x.day(1), 150);
    }

    private static void promise32GoBuyerByBuyer() {
        WhiteElephants x = new WhiteElephants();
        x.thing(0, 100, 0);
        x.thing(0, 100, 0);
        x.thing(0, 100, 0);
        x.mark(0, 30);
        x.mark(1, 20);
        x.mark(2, 60);
        x.buyer(1, 500, 1, 100);
        x.buyer(0, 45, 1, 100);
        x.buyer(0, 500, 1, 40);
        c.due(x.go(1), 50);
        c.due(x.thingOf(1, 5), 1);
        c.due(x.thingOf(0, 5), 2);
        c.due(x.buyerOf(1, 1), 25);
        c.due(x.go(1), 60);
        c.due(x.thingOf(2, 5), 0);
        c.due(x.buyerOf(0, 4), 1);
        c.due(x.buyerOf(1, 4), 1);
        c.due(x.buyerOf(2, 4), 1);
    }

    private static void promise32GoByNumbersNotByHours() {
        WhiteElephants x = new WhiteElephants();
        x.thing(0, 10, 0);
        x.thing(0, 10, 0);
        x.mark(0, 20);
        x.mark(1, 22);
        x.buyer(3, 100, 1, 100);
        x.buyer(0, 100, 1, 110);
        x.turn(0, 3);
        // who came later, but has the lesser number, takes first
        c.due(x.takes(0, 3), 0);
        c.due(x.takes(1, 3), 0);
        c.due(x.takings(3, 12), 10 + 11);
        c.due(x.go(3), 0);
        c.due(x.go(1), 10 + 11);
        c.due(x.thingOf(0, 5), 0);
        c.due(x.thingOf(1, 5), 1);
    }

    private static void promises33And34DayAndMorning() {
        WhiteElephants x = new WhiteElephants();
        for (int t = 0; t < 3; t++) {
            x.thing(0, 100, 0);
        }
        x.mark(0, 30);
        x.mark(1, 40);
        x.buyer(0, 200, 1, 100);
        x.go(3);
        c.due(x.day(0), 3);
        c.due(x.day(1), 70);
        c.due(x.day(2), 2);
        c.due(x.day(3), 1);
        c.bad(x, () -> x.day(-1));
        c.bad(x, () -> x.day(4));
        c.due(x.morning(), 3);
        c.due(x.day(0), 0);
        c.due(x.day(1), 0);
        c.due(x.day(2), 2);
        c.due(x.day(3), 1);
        c.due(x.buyerOf(0, 1), 130);
        c.due(x.thingOf(0, 6), 30);
        x.mark(2, 50);
        c.due(x.go(12), 50);
        c.due(x.day(0), 12);
        c.due(x.day(1), 50);
        c.due(x.day(2), 3);
        c.due(x.day(3), 0);
        c.due(x.morning(), 12);
        c.due(x.go(1), 0);
        c.due(x.morning(), 1);
    }
}
