import java.lang.management.ManagementFactory;
import java.lang.reflect.Constructor;
import java.lang.reflect.Field;
import java.lang.reflect.Member;
import java.lang.reflect.Method;
import java.lang.reflect.Modifier;
import java.nio.file.Files;
import java.nio.file.Path;
import java.util.Arrays;
import java.util.Set;
import java.util.TreeSet;
import java.util.regex.Matcher;
import java.util.regex.Pattern;

/** What of ../shared/LANGUAGE.md and of the public face can be looked at by a program. */
public final class LanguageTests {
    private static final Check check = new Check("LanguageTests");
    private static final String[] FACE = {
        "int depth(int,int)", "int level(int,int)", "int close(int,int,boolean)", "int narrow(int,int,boolean)",
        "int bridge(int,int,int)", "int mouth(int)", "int gate(int,boolean)", "int row(int,int,int)",
        "int set(int,int,long)", "int copy(int,int,int,int,int)", "long element(int,int)", "int show(int,int)",
        "int holds(int)", "int harm(int,int)", "int sea(int,boolean)", "int seaAt(int,boolean)", "int rule(int,int)",
        "int law(int)", "int fault()", "int force(int,boolean)", "int says(int)", "int house(int,int,int,int,int)",
        "int raise(int,int)", "int about(int,int)", "int boat(int,int,int,int,int)", "int goal(int,int)",
        "int stepOf(int)", "int route(int,int,int)", "int sails(int,int)", "int quarters(int)",
        "int foretold(int,int)", "int best(int,int)", "int dredge(int,int)", "int image()", "int restore()",
        "int cell(int,int)", "int way(int,int,int)", "int status(int)"};

    public static void main(String[] args) throws Exception {
        face();
        insideClasses();
        callsMakeNothing();
        if (args.length > 0) {
            source(Files.readString(Path.of(args[0])));
        }
        check.end();
    }

    private static String told(Method method) {
        StringBuilder text = new StringBuilder(method.getReturnType() + " " + method.getName() + "(");
        for (int i = 0; i < method.getParameterCount(); i++) {
            text.append(i > 0 ? "," : "").append(method.getParameterTypes()[i]);
        }
        return text.append(")").toString();
    }

    private static boolean isPrivate(Member member) {
        return Modifier.isPrivate(member.getModifiers());
    }

    private static void face() {
        Set<String> due = new TreeSet<>(Arrays.asList(FACE));
        Set<String> found = new TreeSet<>();
        Set<String> names = new TreeSet<>();
        for (Method method : WaterCity.class.getDeclaredMethods()) {
            if (!isPrivate(method)) {
                check.isTrue("public: " + method, Modifier.isPublic(method.getModifiers()));
                found.add(told(method));
                names.add(method.getName());
            }
        }
        check.isTrue("the face is " + due + ", found is " + found, due.equals(found));
        check.isTrue("public and final", Modifier.isPublic(WaterCity.class.getModifiers())
            && Modifier.isFinal(WaterCity.class.getModifiers()));
        for (Method method : WaterCity.class.getDeclaredMethods()) {
            check.isTrue("no public one's name: " + method, !isPrivate(method) || !names.contains(method.getName()));
        }
        for (Constructor<?> made : WaterCity.class.getDeclaredConstructors()) {
            check.isTrue("the constructor", Modifier.isPublic(made.getModifiers()) && made.getParameterCount() == 0);
        }
        for (Field field : WaterCity.class.getDeclaredFields()) {
            check.isTrue("private: " + field, isPrivate(field) || field.getName().equals("NONE"));
        }
        for (Class<?> inside : WaterCity.class.getDeclaredClasses()) {
            for (Method method : inside.getDeclaredMethods()) {
                check.isTrue("no public one's name: " + method, !names.contains(method.getName()));
            }
        }
    }

    private static void insideClasses() {
        Class<?>[] inside = WaterCity.class.getDeclaredClasses();
        check.isTrue("at most some twelve classes", inside.length < 12);
        fields(WaterCity.class);
        for (Class<?> one : inside) {
            check.isTrue("static: " + one, Modifier.isStatic(one.getModifiers()));
            check.isTrue("not public: " + one, !Modifier.isPublic(one.getModifiers()));
            fields(one);
        }
    }

    /** All calls of a run live in one room: the dearest calls make no object, however often they come. */
    private static void callsMakeNothing() {
        WaterCity x = fullCity();
        dearestCalls(x, 20);
        long before = madeBytes();
        long madeByLooking = madeBytes() - before;
        before = madeBytes();
        dearestCalls(x, 40);
        long made = madeBytes() - before - madeByLooking;
        // a quarter lived in best alone comes 61,440 times here: one small object each would be far more than this
        check.isTrue("calls make no object, made were " + made + " bytes", made < 200_000);
    }

    private static WaterCity fullCity() {
        WaterCity x = new WaterCity();
        String text = "g0:f>9&(l<99|!h=5)";
        x.row(0, 0, text.length());
        for (int i = 0; i < text.length(); i++) {
            x.set(0, i, text.charAt(i));
        }
        for (int n = 0; n < 12; n++) {
            x.mouth(n);
            x.law(0);
            x.house(n % 3, n, 5, 1, 9);
            x.boat(n, 5, 9, 9, 1);
            x.goal(n, 24);
        }
        x.image();
        return x;
    }

    private static void dearestCalls(WaterCity x, int times) {
        for (int i = 0; i < times; i++) {
            x.best(48, 0);
            x.route(5, 24, 96);
            x.foretold(0, 200);
            x.law(0);
            x.quarters(50);
            x.restore();
        }
    }

    private static long madeBytes() {
        return ((com.sun.management.ThreadMXBean) ManagementFactory.getThreadMXBean()).getCurrentThreadAllocatedBytes();
    }

    private static void fields(Class<?> one) {
        int many = 0;
        for (Field field : one.getDeclaredFields()) {
            boolean isStatic = Modifier.isStatic(field.getModifiers());
            check.isTrue("static and final: " + field, !isStatic || Modifier.isFinal(field.getModifiers()));
            many += isStatic ? 0 : 1;
        }
        check.isTrue("at most some twenty fields: " + one, many <= 20);
        for (Method method : one.getDeclaredMethods()) {
            check.isTrue("at most seven parameters: " + method, method.getParameterCount() <= 7);
        }
    }

    private static void source(String text) {
        String bare = text.replaceAll("(?s)/\\*.*?\\*/", "").replaceAll("//[^\n]*", "");
        for (String word : new String[] {"throw", "throws", "try", "catch", "synchronized", "assert", "package",
            "equals", "hashCode", "toString", "Random", "System.nanoTime", "Thread", "volatile", "lambda"}) {
            check.isTrue("without " + word, !bare.matches("(?s).*\\b" + word.replace(".", "\\.") + "\\b.*"));
        }
        check.isTrue("without lambda or method reference", !bare.contains("->") && !bare.contains("::"));
        for (String line : bare.split("\n")) {
            String seen = line.trim();
            check.isTrue("no other library: " + seen,
                !seen.startsWith("import") || seen.equals("import java.util.Arrays;"));
        }
        namesOfClasses(bare);
        methodLengths(bare);
    }

    /** What is named as a class is one of its own, or stands in the rules. */
    private static void namesOfClasses(String bare) {
        Set<String> known = new TreeSet<>(Arrays.asList("WaterCity", "Math", "Arrays", "System"));
        for (Class<?> inside : WaterCity.class.getDeclaredClasses()) {
            known.add(inside.getSimpleName());
        }
        Matcher names = Pattern.compile("\\b[A-Z]\\w*[a-z]\\w*").matcher(bare);
        while (names.find()) {
            check.isTrue("a class that may be used: " + names.group(), known.contains(names.group()));
        }
        Matcher functions = Pattern.compile("\\b(Math|Arrays|System)\\.\\w+").matcher(bare);
        Set<String> listed = new TreeSet<>(Arrays.asList("Math.min", "Math.max", "Math.abs", "Arrays.fill",
            "System.arraycopy"));
        while (functions.find()) {
            check.isTrue("a function that may be used: " + functions.group(), listed.contains(functions.group()));
        }
    }

    private static void methodLengths(String bare) {
        String[] lines = bare.split("\n");
        int from = -1;
        String indent = "";
        for (int i = 0; i < lines.length; i++) {
            String line = lines[i];
            boolean opens = line.endsWith(") {") && !line.matches("\\s*(if|for|while|switch|\\}).*");
            if (from < 0 && opens) {
                from = i;
                indent = line.substring(0, line.length() - line.stripLeading().length());
            } else if (from >= 0 && line.equals(indent + "}")) {
                check.isTrue("short: " + lines[from].trim(), i - from <= 60);
                from = -1;
            }
        }
        check.isTrue("every method has an end", from < 0);
    }
}
