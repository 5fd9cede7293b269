/** Promises 42 to 44: SECRETS, who LOOKS where, and what is LAID on which TABLE. */
public final class SecretsTest {
    private static final Check c = new Check();

    public static void main(String[] args) {
        promise42Secret();
        promise43Looks();
        promise44Laid();
        promise44LaidLeavesRoom();
        promise44LaidRefuses();
        c.end();
    }

    private static void promise42Secret() {
        WhiteElephants x = new WhiteElephants();
        c.bad(x, () -> x.secret(0, 0));
        x.thing(0, 1, 0);
        c.bad(x, () -> x.secret(-1, 0));
        c.bad(x, () -> x.secret(1, 0));
        c.bad(x, () -> x.secret(0, -1));
        c.bad(x, () -> x.secret(0, 16));
        c.due(x.secret(0, 0), 0);
        c.due(x.secret(0, 15), 1);
        // the same one again is another one
        for (int i = 2; i < 10; i++) {
            c.due(x.secret(0, 15), i);
        }
        c.due(x.status(6), 10);
        c.bad(x, () -> x.secret(0, 16));
        c.refused(x, -6, () -> x.secret(0, 0));
        c.due(x.status(6), 10);
    }

    private static void promise43Looks() {
        WhiteElephants x = new WhiteElephants();
        c.due(x.looks(0, 31), 0);
        c.due(x.looks(15, 4), 0);
        c.due(x.looks(0, 0), 31);
        c.due(x.looks(0, 1), 0);
        c.due(x.looks(15, 4), 4);
        c.bad(x, () -> x.looks(-1, 0));
        c.bad(x, () -> x.looks(16, 0));
        c.bad(x, () -> x.looks(0, -1));
        c.bad(x, () -> x.looks(0, 32));
        c.due(x.looks(0, 1), 1);
    }

    private static WhiteElephants presents(int n) {
        WhiteElephants x = new WhiteElephants();
        for (int t = 0; t < n; t++) {
            x.thing(0, t, 0);
        }
        return x;
    }

    private static void dueLaid(WhiteElephants x, int room, int... want) {
        for (int t = 0; t < want.length; t++) {
            c.due(x.laid(room, t), want[t]);
        }
    }

    private static void promise44Laid() {
        WhiteElephants x = presents(4);
        dueLaid(x, 1, -1, -1, -1, -1);
        // by the THINGS' numbers, not by those of the SECRETS
        x.secret(3, 0);
        x.secret(1, 1);
        x.secret(0, 2);
        dueLaid(x, 1, 0, 1, -1, 2);
        dueLaid(x, 2, 0, 0, -1, 1);
        dueLaid(x, 10, 0, 0, -1, 0);
        x.looks(1, 3);
        dueLaid(x, 1, 0, 2, -1, 1);
        // all who must not see it count
        x.secret(1, 5);
        x.looks(5, 4);
        dueLaid(x, 1, 0, 3, -1, 1);
        // two SECRETS of one THING take one place
        dueLaid(x, 2, 0, 3, -1, 0);
    }

    private static void promise44LaidLeavesRoom() {
        WhiteElephants x = presents(3);
        x.secret(0, 0);
        x.secret(1, 1);
        x.secret(2, 2);
        // 1 can lie at 0 alone, 2 at 0 or 1: so 0 must lie at 2, with room for one
        x.looks(1, 30);
        x.looks(2, 28);
        dueLaid(x, 1, 2, 0, 1);
        dueLaid(x, 2, 0, 0, 1);
        dueLaid(x, 3, 0, 0, 0);
        WhiteElephants y = presents(10);
        for (int t = 0; t < 10; t++) {
            y.secret(t, t);
        }
        dueLaid(y, 2, 0, 0, 1, 1, 2, 2, 3, 3, 4, 4);
        y.looks(9, 15);
        y.looks(8, 15);
        y.looks(0, 1);
        dueLaid(y, 2, 1, 0, 0, 1, 2, 2, 3, 3, 4, 4);
        y.looks(7, 7);
        y.looks(6, 7);
        y.looks(5, 3);
        dueLaid(y, 2, 1, 0, 0, 1, 2, 2, 3, 3, 4, 4);
    }

    private static void promise44LaidRefuses() {
        WhiteElephants x = presents(7);
        c.bad(x, () -> x.laid(0, 0));
        c.bad(x, () -> x.laid(11, 0));
        c.bad(x, () -> x.laid(1, -1));
        c.bad(x, () -> x.laid(1, 7));
        for (int t = 0; t < 5; t++) {
            x.secret(t, t);
        }
        dueLaid(x, 1, 0, 1, 2, 3, 4, -1, -1);
        x.secret(5, 5);
        c.refused(x, -5, () -> x.laid(1, 0));
        // none can be LAID: that is told of a THING without a SECRET too
        c.refused(x, -5, () -> x.laid(1, 6));
        c.bad(x, () -> x.laid(1, 7));
        dueLaid(x, 2, 0, 0, 1, 1, 2, 2, -1);
        x.looks(3, 31);
        c.refused(x, -5, () -> x.laid(10, 0));
        x.looks(3, 23);
        c.due(x.laid(10, 3), 3);
        x.looks(4, 23);
        x.looks(0, 23);
        c.refused(x, -5, () -> x.laid(2, 0));
        dueLaid(x, 3, 3, 0, 0, 3, 3, 0, -1);
    }
}
