import java.lang.reflect.Field;
import java.lang.reflect.Method;
import java.lang.reflect.Modifier;
import java.nio.file.Files;
import java.nio.file.Path;
import java.util.ArrayList;
import java.util.Arrays;
import java.util.HashMap;
import java.util.List;
import java.util.Map;
import java.util.Set;
import java.util.TreeSet;
import java.util.regex.Matcher;
import java.util.regex.Pattern;

/** Those rules of LANGUAGE.md that can be looked up: the face, the sizes, what may not stand in the source. */
public final class LanguageTest {
    private static final String SOURCE = "src/main/java/WhiteElephants.java";
    private static final String FACE = "int row(int,int,int);int set(int,int,long);int copy(int,int,int,int,int);"
        + "long element(int,int);int holds(int);int show(int,int);int says(int,int);int thing(int,int,int);"
        + "int things(int,int,int);int thingOf(int,int);int chip(int,int);int lady(int,int);int goes(int,int);"
        + "int feed(int,int);int wipe();int law();int lawOf(int,int);int thinks(int,int,boolean);int price(int,int);"
        + "int mark(int,int);int buyer(int,int,int,int);int buyerOf(int,int);int turn(int,int);int costs(int,int);"
        + "int takes(int,int);int takings(int,int);int best();int judge(int);int rest(int);int loses(int,int);"
        + "int go(int);int day(int);int morning();int shown(int);int table(int);int who(int);int sight(int,int,int,int);"
        + "int same(int,int);int vases();int longest();int secret(int,int);int looks(int,int);int laid(int,int);"
        + "int shortBy(int);int hall(int,int);int image();int back();int status(int)";
    private static int wrong = 0;

    public static void main(String[] args) throws Exception {
        rule1Face();
        rules1And2ClassesInside();
        rule3Types();
        rules5And11Fields();
        rule5RowsNeverChange();
        rule11Parameters();
        String source = withoutTextsAndRemarks(Files.readString(Path.of(SOURCE)));
        rules4And6Words(source);
        rules6And12CastsAndMaking(source);
        rule9LoopsHaveABound(source);
        rule10NoTextsAreJoined(source);
        rule11MethodsStayShort(source);
        rules8And11CallsAreNotDeep(source);
        rule3Signs(Files.readString(Path.of(SOURCE)));
        System.out.println(wrong + " rules not kept");
        if (wrong != 0) {
            System.exit(1);
        }
    }

    private static void keep(boolean kept, String what) {
        if (!kept) {
            wrong++;
            System.out.println(what);
        }
    }

    private static List<Class<?>> classes() {
        List<Class<?>> classes = new ArrayList<>(Arrays.asList(WhiteElephants.class.getDeclaredClasses()));
        classes.add(WhiteElephants.class);
        return classes;
    }

    private static void rule1Face() {
        int modifiers = WhiteElephants.class.getModifiers();
        keep(Modifier.isPublic(modifiers) && Modifier.isFinal(modifiers), "the class is public and final");
        Set<String> face = new TreeSet<>();
        for (Method m : WhiteElephants.class.getDeclaredMethods()) {
            if (Modifier.isPublic(m.getModifiers())) {
                keep(!Modifier.isStatic(m.getModifiers()), m + " is static");
                String types = String.join(",", Arrays.stream(m.getParameterTypes()).map(Class::getName).toList());
                face.add(m.getReturnType() + " " + m.getName() + "(" + types + ")");
            } else {
                keep(Modifier.isPrivate(m.getModifiers()), m + " can be seen");
            }
        }
        keep(face.equals(new TreeSet<>(Arrays.asList(FACE.split(";")))), "the face is another one: " + face);
        for (Field f : WhiteElephants.class.getDeclaredFields()) {
            boolean isNone = f.getName().equals("NONE");
            keep(isNone == Modifier.isPublic(f.getModifiers()), f + " is or is not public");
            keep(isNone || Modifier.isPrivate(f.getModifiers()), f + " can be seen");
        }
        keep(WhiteElephants.class.getConstructors().length == 1, "one public constructor");
        keep(WhiteElephants.class.getDeclaredConstructors().length == 1, "no other constructor");
    }

    private static void rules1And2ClassesInside() {
        Set<String> names = new TreeSet<>();
        for (String method : FACE.split(";")) {
            names.add(method.substring(method.indexOf(' ') + 1, method.indexOf('(')));
        }
        keep(classes().size() <= 12, "more than twelve classes");
        for (Class<?> c : classes()) {
            keep(c == WhiteElephants.class || Modifier.isStatic(c.getModifiers()), c + " is not static");
            for (Method m : c.getDeclaredMethods()) {
                boolean ofFace = c == WhiteElephants.class && Modifier.isPublic(m.getModifiers());
                keep(ofFace || !names.contains(m.getName()), m + " bears the name of a public one");
            }
        }
    }

    private static void rule3Types() {
        for (Class<?> c : classes()) {
            for (Field f : c.getDeclaredFields()) {
                keep(mayBe(f.getType()), f + " is of a type that may not be");
            }
            for (Method m : c.getDeclaredMethods()) {
                keep(mayBe(m.getReturnType()), m + " answers what may not be");
                for (Class<?> type : m.getParameterTypes()) {
                    keep(mayBe(type), m + " takes what may not be");
                }
            }
        }
    }

    /** Numbers, texts, own classes, and rows of these. */
    private static boolean mayBe(Class<?> type) {
        Class<?> one = type.isArray() ? type.getComponentType() : type;
        return one.isPrimitive() || !type.isArray() && one == String.class || classes().contains(one);
    }

    /** Static rows tell the same when all has been asked. */
    private static void rule5RowsNeverChange() throws IllegalAccessException {
        String before = staticRows();
        for (int part = 0; part < Told.PARTS; part++) {
            WhiteElephants x = new WhiteElephants();
            Scenes.full(x);
            Told.part(x, part);
        }
        keep(before.equals(staticRows()), "a static row has changed");
        keep(before.length() > 20, "static rows are looked at");
    }

    private static String staticRows() throws IllegalAccessException {
        StringBuilder told = new StringBuilder();
        for (Class<?> c : classes()) {
            for (Field f : c.getDeclaredFields()) {
                if (Modifier.isStatic(f.getModifiers())) {
                    keep(Set.of(int.class, int[].class).contains(f.getType()), f + " is no int and no row of ints");
                    f.setAccessible(true);
                    Object row = f.get(null);
                    told.append(row instanceof int[] ? Arrays.toString((int[]) row) : "");
                }
            }
        }
        return told.toString();
    }

    private static void rules5And11Fields() {
        for (Class<?> c : classes()) {
            int fields = 0;
            for (Field f : c.getDeclaredFields()) {
                boolean fixed = Modifier.isStatic(f.getModifiers());
                keep(!fixed || Modifier.isFinal(f.getModifiers()), f + " is static and not final");
                fields += fixed ? 0 : 1;
            }
            keep(fields <= 20, c + " has " + fields + " fields");
        }
    }

    private static void rule11Parameters() {
        for (Class<?> c : classes()) {
            for (Method m : c.getDeclaredMethods()) {
                keep(m.getParameterCount() <= 7, m + " takes more than seven");
            }
        }
    }

    private static String withoutTextsAndRemarks(String source) {
        return source.replaceAll("(?s)/\\*.*?\\*/", "").replaceAll("//[^\n]*", "").replaceAll("\"[^\"\n]*\"", "\"\"");
    }

    private static void rules4And6Words(String source) {
        String words = "\\b(throw|throws|try|catch|synchronized|assert|protected|volatile|native|var|yield|float|double"
            + "|equals|hashCode|toString|Object|System\\.(?!arraycopy)\\w+|Exception|Error|Random|Thread|Class"
            + "|\\w*Exact)\\b|->|::|\\bstatic\\s*\\{";
        Matcher m = Pattern.compile(words).matcher(source);
        while (m.find()) {
            keep(false, "in the source: " + m.group());
        }
        Matcher imports = Pattern.compile("import ([^;]*);").matcher(source);
        while (imports.find()) {
            keep(imports.group(1).equals("java.util.Arrays"), "imported: " + imports.group(1));
        }
        keep(!source.contains("package "), "a package line");
        Matcher rows = Pattern.compile("Arrays\\.(\\w+)").matcher(source);
        while (rows.find()) {
            keep(rows.group(1).equals("fill"), "Arrays." + rows.group(1));
        }
    }

    private static void rules6And12CastsAndMaking(String source) {
        Matcher casts = Pattern.compile("\\((\\w+)\\) ?[\\w(]").matcher(source);
        while (casts.find()) {
            boolean isCast = !source.substring(0, casts.start()).matches("(?s).*(\\w|if |for |while |switch )");
            keep(!isCast || Set.of("int", "short", "byte", "long").contains(casts.group(1)), "a cast: " + casts.group());
        }
        for (String line : source.split("\n")) {
            // made with the object: in a field, or in the one constructor
            boolean made = line.matches(" +(private )?final \\w+(\\[\\])? \\w+ = new .*")
                || line.strip().equals("shelves[s] = new Shelf();");
            keep(!line.contains("new ") || made, "made by a call: " + line.strip());
        }
    }

    private static void rule9LoopsHaveABound(String source) {
        Matcher loops = Pattern.compile("\\b(for|while) \\((.*)\\) \\{").matcher(source);
        int seen = 0;
        while (loops.find()) {
            seen++;
            boolean bounded = loops.group(1).equals("for")
                ? loops.group(2).matches("int (\\w+) = .*; .*\\b\\1 (<|<=|>|>=) .*; \\1(\\+\\+|--)")
                : loops.group(2).matches("(\\w+) < \\w+ && .*");
            keep(bounded, "a loop without a bound: " + loops.group());
        }
        keep(seen > 40 && !source.matches("(?s).*\\bdo \\{.*"), "loops are looked at");
    }

    private static void rule10NoTextsAreJoined(String source) {
        for (String line : source.split("\n")) {
            keep(!line.contains("\"\"") || line.contains("isWord(\"\")"), "a text: " + line.strip());
        }
    }

    /** How many calls stand open at most, by "class.name"; a method that calls itself must guard its depth. */
    private static void rules8And11CallsAreNotDeep(String source) {
        Map<String, String> bodies = bodies(source);
        Map<String, Integer> depths = new HashMap<>();
        for (String method : bodies.keySet()) {
            int depth = depth(method, bodies, depths, 1);
            keep(depth <= 8, method + " stands " + depth + " calls deep");
            String name = method.substring(method.indexOf('.') + 1);
            boolean callsItself = Pattern.compile("(?<![.\\w])" + name + "\\(").matcher(bodies.get(method)).find();
            keep(!callsItself || source.contains("private static boolean " + name + "("),
                method + " calls itself and is not private and static");
        }
        int methods = 1;
        for (Class<?> c : classes()) {
            methods += (int) Arrays.stream(c.getDeclaredMethods()).filter(m -> !m.isSynthetic()).count();
        }
        keep(bodies.size() == methods, "all methods and the constructor are looked at: " + bodies.size());
    }

    private static Map<String, String> bodies(String source) {
        Map<String, String> bodies = new HashMap<>();
        Pattern head = Pattern.compile("( {4}| {8})(?:\\w+ )*?[\\w\\[\\]]+ (\\w+)\\([^)]*\\) \\{");
        String inside = "";
        String method = "";
        for (String line : source.split("\n")) {
            Matcher m = head.matcher(line);
            if (line.contains(" class ")) {
                inside = line.replaceAll(".* class (\\w+).*", "$1");
            } else if (line.equals("    }") && !inside.equals("WhiteElephants") && method.isEmpty()) {
                inside = "WhiteElephants";
            } else if (m.matches()) {
                method = inside + "." + m.group(2);
                bodies.put(method, "");
            } else if (line.equals("    }") || line.equals("        }") && !inside.equals("WhiteElephants")) {
                method = "";
            } else if (!method.isEmpty()) {
                bodies.merge(method, line + "\n", String::concat);
            }
        }
        return bodies;
    }

    private static int depth(String method, Map<String, String> bodies, Map<String, Integer> known, int open) {
        if (known.containsKey(method)) {
            return known.get(method);
        }
        if (open > 100) {
            keep(false, method + " leads to itself by others");
            return 0;
        }
        int deepest = 0;
        Matcher calls = Pattern.compile("(\\.?)\\b([a-z]\\w*)\\(").matcher(bodies.get(method));
        while (calls.find()) {
            String own = method.substring(0, method.indexOf('.')) + "." + calls.group(2);
            if (own.equals(method) && calls.group(1).isEmpty()) {
                keep(bodies.get(method).contains("depth + 1"), method + " calls itself without a guard");
                continue;
            }
            for (String other : bodies.keySet()) {
                boolean named = other.endsWith("." + calls.group(2));
                boolean others = !other.equals(own) && (!calls.group(1).isEmpty() || !bodies.containsKey(own));
                if (named && (others || other.equals(own) && !method.equals(own))) {
                    deepest = Math.max(deepest, depth(other, bodies, known, open + 1));
                }
            }
        }
        known.put(method, deepest + 1);
        return deepest + 1;
    }

    private static void rule11MethodsStayShort(String source) {
        int start = 0;
        String name = "";
        String[] lines = source.split("\n");
        for (int i = 0; i < lines.length; i++) {
            String line = lines[i];
            int indent = line.length() - line.stripLeading().length();
            if ((indent == 4 || indent == 8) && line.contains("(") && line.endsWith("{") && !line.contains("class ")) {
                start = i;
                name = line.strip();
            }
            if ((indent == 4 || indent == 8) && line.strip().equals("}") && !name.isEmpty()) {
                keep(i - start < 60, name + " has " + (i - start + 1) + " lines");
                name = "";
            }
        }
    }

    private static void rule3Signs(String source) {
        keep(source.chars().allMatch(sign -> sign == '\n' || sign >= 32 && sign <= 126), "signs beyond 32 to 126");
    }
}
