import java.lang.reflect.Method;
import java.util.ArrayList;
import java.util.Arrays;
import java.util.List;
import java.util.Map;
import java.util.Random;
import java.util.TreeMap;

/** Random runs of 512 calls, each answer compared with that of PlainHall. */
public final class RunsTest {
    private static final int CALLS = 512;
    private static final int RUNS = 1200;

    /** By name: the kind of each argument, as argument() knows them. */
    private static final String[] FACE = {
        "row s sort n40", "set s i40 value", "copy s s i40 i40 n40", "element s i40", "holds s", "show s thing-",
        "says s kind", "thing kind pence chips", "things s kind n40", "thingOf thing what7", "chip thing bit",
        "lady kinds pence", "goes lady law-", "feed bytes n4", "wipe", "law", "lawOf law what5",
        "thinks lady thing flag", "price lady kinds", "mark thing pence-", "buyer hour purse kinds eye",
        "buyerOf buyer what5", "turn two hour13", "costs thing hour", "takes buyer hour", "takings hour13 hour13",
        "best", "judge s", "rest kind-", "loses lady kinds", "go hours", "day what4", "morning", "shown minutes",
        "table kinds", "who table-", "sight year chips person- person-", "same sighting sighting", "vases", "longest",
        "secret thing person", "looks person tables", "laid room thing", "shortBy sum", "hall three thing", "image",
        "back", "status what17"};

    /** The least and the greatest that may be, where these are not by what there is. */
    private static final Map<String, int[]> ENDS = Map.ofEntries(
        Map.entry("s", new int[] {0, 7}), Map.entry("sort", new int[] {0, 4}), Map.entry("n40", new int[] {0, 40}),
        Map.entry("i40", new int[] {0, 39}), Map.entry("kind", new int[] {0, 5}), Map.entry("pence", new int[] {0, 999}),
        Map.entry("chips", new int[] {0, 255}), Map.entry("bit", new int[] {0, 7}), Map.entry("kinds", new int[] {0, 63}),
        Map.entry("n4", new int[] {1, 4}), Map.entry("hour", new int[] {0, 11}), Map.entry("hour13", new int[] {0, 12}),
        Map.entry("hours", new int[] {1, 12}), Map.entry("purse", new int[] {0, 9999}),
        Map.entry("eye", new int[] {0, 300}), Map.entry("minutes", new int[] {0, 200}),
        Map.entry("year", new int[] {0, 99}), Map.entry("person", new int[] {0, 15}),
        Map.entry("tables", new int[] {0, 31}), Map.entry("room", new int[] {1, 10}),
        Map.entry("sum", new int[] {1, 9999}), Map.entry("two", new int[] {0, 1}), Map.entry("three", new int[] {0, 2}));

    private final Random random;
    private final WhiteElephants x = new WhiteElephants();
    private final PlainHall plain = new PlainHall();
    private final List<String> log = new ArrayList<>();
    private final TreeMap<String, int[]> seen;
    private final int usualSort;
    private String text = "";
    private int chunkSize = 0;

    private RunsTest(long seed, TreeMap<String, int[]> seen) {
        random = new Random(seed);
        this.seen = seen;
        usualSort = random.nextInt(5);
    }

    public static void main(String[] args) throws Exception {
        TreeMap<String, int[]> seen = new TreeMap<>();
        int wrong = 0;
        for (int run = 0; run < RUNS && wrong < 3; run++) {
            if (!new RunsTest(run, seen).play(run % 4)) {
                wrong++;
            }
        }
        for (String name : seen.keySet()) {
            if (args.length > 0) {
                System.out.println(name + ": answers, refusals " + Arrays.toString(seen.get(name)));
            }
            if (seen.get(name)[0] < RUNS / 4) {
                wrong++;
                System.out.println(name + " is hardly asked");
            }
        }
        System.out.println(RUNS + " runs of " + CALLS + " calls, " + wrong + " not as due");
        if (wrong != 0 || seen.size() != FACE.length) {
            System.exit(1);
        }
    }

    private boolean play(int manner) throws Exception {
        double[] weights = weights(manner);
        boolean right = true;
        while (right && log.size() < CALLS - 40) {
            String[] call = FACE[choose(weights)].split(" ");
            right = call[0].equals("law") && random.nextInt(4) > 0 ? askLaw() : ask(call);
        }
        while (right && log.size() < CALLS) {
            right = ask("thingOf thing what7".split(" "));
        }
        return right;
    }

    /** Some whole statements, and law() right behind them. */
    private boolean askLaw() throws Exception {
        boolean right = ask(new String[] {"wipe"});
        text = "";
        for (int i = upTo(3); i >= 0; i--) {
            text += statement();
        }
        text = text.substring(0, Math.min(text.length() - 1 + upTo(20) / 19, 120));
        while (right && !text.isEmpty()) {
            right = ask("feed", new Object[] {chunk(Math.min(4, text.length())), chunkSize});
        }
        return right && ask(new String[] {"law"});
    }

    /** The next n bytes of the text as feed takes them, with something above them that does not count. */
    private int chunk(int n) {
        chunkSize = n;
        int v = n == 4 ? 0 : random.nextInt() << 8 * n;
        for (int i = 0; i < n; i++) {
            v |= text.charAt(i) << 8 * (n - 1 - i);
        }
        text = text.substring(n);
        return v;
    }

    /** What makes THINGS, LADIES and so on comes often enough; images seldom, or they undo all. */
    private double[] weights(int manner) {
        double[] weights = new double[FACE.length];
        for (int i = 0; i < weights.length; i++) {
            weights[i] = 0.2 + random.nextDouble();
            String name = FACE[i].split(" ")[0];
            boolean makes = List.of("thing", "lady", "buyer", "table", "sight", "secret", "looks").contains(name);
            if (makes) {
                weights[i] *= manner == 0 ? 0.4 : 1.5;
            }
            if (List.of("mark", "price", "set").contains(name)) {
                weights[i] *= 2.5;
            }
            if (List.of("back", "image", "wipe", "vases", "show", "feed").contains(name)) {
                weights[i] *= 0.25;
            }
            if (List.of("go", "morning", "law").contains(name) && manner % 2 == 1) {
                weights[i] *= 0.3;
            }
        }
        return weights;
    }

    private int choose(double[] weights) {
        double at = random.nextDouble() * Arrays.stream(weights).sum();
        for (int i = 0; i < weights.length; i++) {
            at -= weights[i];
            if (at < 0) {
                return i;
            }
        }
        return weights.length - 1;
    }

    private boolean ask(String[] call) throws Exception {
        Object[] args = new Object[call.length - 1];
        for (int i = 0; i < args.length; i++) {
            args[i] = argument(call[i + 1]);
        }
        if (call[0].equals("feed")) {
            feedText(args);
        }
        return ask(call[0], args);
    }

    private boolean ask(String name, Object[] args) throws Exception {
        Class<?>[] types = new Class<?>[args.length];
        for (int i = 0; i < args.length; i++) {
            types[i] = args[i] instanceof Long ? long.class : args[i] instanceof Boolean ? boolean.class : int.class;
        }
        Method asked = WhiteElephants.class.getMethod(name, types);
        Method due = PlainHall.class.getMethod(name, types);
        long got = ((Number) asked.invoke(x, args)).longValue();
        long want = ((Number) due.invoke(plain, args)).longValue();
        log.add(name + Arrays.toString(args) + " -> " + got);
        seen.computeIfAbsent(name, any -> new int[2])[got <= -2 && asked.getReturnType() == int.class ? 1 : 0]++;
        if (got != want) {
            System.out.println(String.join("\n", log) + "\ndue is " + want);
        }
        return got == want;
    }

    /** Puts the next bytes of a text that is nearly a LAW. */
    private void feedText(Object[] args) {
        int n = (Integer) args[1];
        if (n < 1 || n > 4 || random.nextInt(60) == 0) {
            return;
        }
        while (text.length() < 4) {
            text += statement();
        }
        args[0] = chunk(n);
    }

    private String statement() {
        String word = List.of("known", "strange", "round", "least", "most").get(random.nextInt(5));
        int number = random.nextInt(word.equals("round") ? 52 : word.matches("known|strange") ? 202 : 1001);
        String made = blanks() + word + blanks() + number + blanks() + ";";
        if (random.nextInt(15) == 0) {
            int at = random.nextInt(made.length());
            made = made.substring(0, at) + "az{`09/:; ;AZ0\u00e9\u0000".charAt(random.nextInt(16)) + made.substring(at);
        }
        return made;
    }

    private String blanks() {
        return " ".repeat(random.nextInt(3) / 2 + random.nextInt(4) / 3);
    }

    private Object argument(String kind) {
        if (kind.equals("flag")) {
            return random.nextBoolean();
        }
        if (kind.equals("value")) {
            int sort = random.nextInt(6);
            return sort == 0 ? random.nextLong() : sort == 1 ? random.nextInt() : (long) random.nextInt(500) - 10;
        }
        if (kind.equals("bytes")) {
            return random.nextInt();
        }
        if (random.nextInt(60) == 0) {
            return new int[] {-1, -2, Integer.MIN_VALUE, Integer.MAX_VALUE, 1000, 64, 13, 6, 31}[random.nextInt(9)];
        }
        boolean orNone = kind.endsWith("-");
        if (orNone && random.nextInt(5) == 0) {
            return -1;
        }
        String plainKind = orNone ? kind.substring(0, kind.length() - 1) : kind;
        int[] ends = ENDS.get(plainKind);
        if (ends != null && random.nextInt(25) == 0) {
            return new int[] {ends[0] - 1, ends[0], ends[1], ends[1] + 1}[random.nextInt(4)];
        }
        return number(plainKind);
    }

    private int upTo(int most) {
        return random.nextInt(most + 1);
    }

    /** A number of what there is, now and then the next one. */
    private int one(int status) {
        return random.nextInt(Math.max(1, plain.status(status) + (random.nextInt(15) == 0 ? 1 : 0)));
    }

    private int number(String kind) {
        switch (kind) {
            case "s":
                return upTo(random.nextInt(30) == 0 ? 8 : 3);
            case "sort":
                return random.nextInt(3) == 0 ? upTo(4) : usualSort;
            case "n40":
                return random.nextInt(4) == 0 ? upTo(41) : upTo(9);
            case "i40":
                return random.nextInt(6) == 0 ? upTo(40) : upTo(5);
            case "kind":
                return upTo(5);
            case "pence":
                return random.nextInt(4) == 0 ? upTo(999) : 10 * upTo(20);
            case "chips":
                return random.nextInt(3) == 0 ? 0 : upTo(255) & upTo(255);
            case "bit":
                return upTo(7);
            case "kinds":
                return random.nextInt(3) == 0 ? 63 : upTo(63);
            case "thing":
                return one(0);
            case "lady":
                return one(1);
            case "law":
                return one(2);
            case "buyer":
                return one(3);
            case "table":
                return one(4);
            case "sighting":
                return one(5);
            case "n4":
                return 1 + upTo(3);
            case "hour":
                return random.nextInt(3) == 0 ? 0 : upTo(11);
            case "hour13":
                return upTo(12);
            case "hours":
                return random.nextInt(3) == 0 ? 1 + upTo(11) : 1 + upTo(2);
            case "purse":
                return random.nextInt(3) == 0 ? upTo(9999) : upTo(500);
            case "eye":
                return random.nextInt(3) == 0 ? 100 : upTo(300);
            case "minutes":
                return random.nextInt(4) == 0 ? upTo(200) : upTo(40);
            case "year":
                return random.nextInt(3) == 0 ? upTo(99) : upTo(9);
            case "person":
                return random.nextInt(3) == 0 ? upTo(15) : upTo(2);
            case "tables":
                return random.nextInt(4) == 0 ? upTo(31) : upTo(31) & upTo(31);
            case "room":
                return random.nextInt(3) == 0 ? 1 + upTo(9) : 1 + upTo(1);
            case "sum":
                return random.nextInt(3) == 0 ? 1 + upTo(2000) : 10 * (1 + upTo(30));
            case "two":
                return upTo(1);
            case "three":
                return upTo(2);
            default:
                return upTo(Integer.parseInt(kind.substring(4)) - 1);
        }
    }
}
