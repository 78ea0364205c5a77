import java.io.IOException;
import java.lang.management.ManagementFactory;
import java.lang.reflect.Constructor;
import java.lang.reflect.Field;
import java.lang.reflect.Method;
import java.lang.reflect.Modifier;
import java.nio.file.Files;
import java.nio.file.Path;
import java.util.List;
import java.util.TreeSet;
import java.util.regex.Matcher;
import java.util.regex.Pattern;

/** The public face to the letter, what LANGUAGE.md leaves out or bounds, and that no call makes an object. */
public final class FaceAndRoomTest {
    private static final String[] FACE = {
        "int crew(int)", "int work(int,int,int,int,boolean)", "boolean after(int,int,int)",
        "boolean season(int,int,int)", "boolean bar(int,int,int)", "boolean rest(int)", "int most(int,int)",
        "int learned(int,int,int)", "int run(int)", "boolean proved()", "int tried()", "int told(int,int)",
        "int at(int,int)", "int passes(int,int,boolean,int)", "boolean crosses(int,int)", "int under(int,int)",
        "int bound()", "int lone(int)", "boolean late(int,int)", "int freeze(int)", "int replan(int)",
        "boolean moved(int)", "int slack(int)", "int odds(int,int,int,int)", "int count(int)",
    };
    private static final String[] LEFT_OUT = {
        "throw", "throws", "try", "catch", "finally", "synchronized", "assert", "import", "package", "null", "System",
        "Random", "Exact", "volatile", "native",
    };
    private static final List<String> LIBRARY = List.of("max", "min", "abs", "floorDiv", "floorMod");
    private static int wrong;

    public static void main(String[] args) throws IOException {
        lookAtFace();
        lookAtWords();
        lookAtLibrary();
        lookAtMethodLengths();
        lookAtClasses();
        lookAtRoom();
        System.out.println("face, language and room: " + wrong + " faults");
        if (wrong != 0) {
            System.exit(1);
        }
    }

    private static void fault(String what) {
        wrong++;
        System.out.println(what);
    }

    private static String parameters(Class<?>[] types) {
        StringBuilder text = new StringBuilder("(");
        for (Class<?> type : types) {
            text.append(text.length() > 1 ? "," : "").append(type.getName());
        }
        return text.append(')').toString();
    }

    private static void lookAtFace() {
        TreeSet<String> want = new TreeSet<>(List.of(FACE));
        TreeSet<String> got = new TreeSet<>();
        TreeSet<String> publicNames = new TreeSet<>();
        for (Method method : PlaceTimePlans.class.getDeclaredMethods()) {
            if (!Modifier.isPrivate(method.getModifiers())) {
                got.add(method.getReturnType().getName() + " " + method.getName()
                        + parameters(method.getParameterTypes()));
                publicNames.add(method.getName());
            }
        }
        if (!want.equals(got)) {
            fault("the face is " + got);
        }
        for (Method method : PlaceTimePlans.class.getDeclaredMethods()) {
            if (Modifier.isPrivate(method.getModifiers()) && publicNames.contains(method.getName())) {
                fault("a private method bears the name " + method.getName());
            }
        }
        for (Field field : PlaceTimePlans.class.getDeclaredFields()) {
            if (!Modifier.isPrivate(field.getModifiers()) && !field.getName().equals("BAD")) {
                fault("a field that is not private: " + field.getName());
            }
        }
        Constructor<?>[] constructors = PlaceTimePlans.class.getDeclaredConstructors();
        if (constructors.length != 1 || constructors[0].getParameterCount() != 0) {
            fault("the constructors");
        }
        if (!Modifier.isFinal(PlaceTimePlans.class.getModifiers())) {
            fault("the class is not final");
        }
    }

    private static String code() throws IOException {
        String text = Files.readString(Path.of("src/main/java/PlaceTimePlans.java"));
        return text.replaceAll("(?s)/\\*.*?\\*/", " ").replaceAll("//[^\n]*", " ");
    }

    private static void lookAtWords() throws IOException {
        String code = code();
        for (String word : LEFT_OUT) {
            if (Pattern.compile("\\b" + word + "\\b").matcher(code).find()) {
                fault("the program has the word " + word);
            }
        }
        if (code.contains("->") || code.contains("::") || code.contains("\"")) {
            fault("the program has a lambda, a method reference or a text");
        }
    }

    /** Rule 4: of the library only functions over numbers are used. */
    private static void lookAtLibrary() throws IOException {
        Matcher use = Pattern.compile("\\b([A-Z][a-z]\\w*)\\.(\\w+)").matcher(code());
        while (use.find()) {
            if (!use.group(1).equals("Math") || !LIBRARY.contains(use.group(2))) {
                fault("the program uses " + use.group());
            }
        }
    }

    /** Rule 11: methods stay short. One ends at the first brace that stands as far left as its head. */
    private static void lookAtMethodLengths() throws IOException {
        String text = Files.readString(Path.of("src/main/java/PlaceTimePlans.java"));
        Matcher method = Pattern.compile("(?ms)^( +)[\\w<>\\[\\] ]+\\([^;{}]*\\) \\{$.*?^\\1\\}$").matcher(text);
        int methods = 0;
        while (method.find()) {
            methods++;
            if (method.group().lines().count() > 60) {
                fault("a long method: " + method.group().lines().findFirst());
            }
        }
        if (methods < FACE.length) {
            fault("methods found: " + methods);
        }
    }

    /** Rules 2, 5 and 11: how many classes, fields and parameters there are, and what is static. */
    private static void lookAtClasses() {
        Class<?>[] inside = PlaceTimePlans.class.getDeclaredClasses();
        if (inside.length + 1 > 12) {
            fault("classes: " + inside.length);
        }
        lookAtClass(PlaceTimePlans.class);
        for (Class<?> one : inside) {
            int modifiers = one.getModifiers();
            if (!Modifier.isStatic(modifiers) || Modifier.isPublic(modifiers) || Modifier.isProtected(modifiers)) {
                fault("a class inside that is not static, or seen from outside: " + one.getName());
            }
            lookAtClass(one);
        }
    }

    private static void lookAtClass(Class<?> one) {
        int fields = 0;
        for (Field field : one.getDeclaredFields()) {
            if (!Modifier.isStatic(field.getModifiers())) {
                fields++;
            } else if (!Modifier.isFinal(field.getModifiers())) {
                fault("a static field that is not final: " + field.getName());
            }
        }
        if (fields > 20) {
            fault(one.getName() + " has fields: " + fields);
        }
        for (Method method : one.getDeclaredMethods()) {
            if (method.getParameterCount() > 7) {
                fault("parameters of " + method.getName());
            }
        }
    }

    /** Every call some times, the dearest ones too: what they make is counted by the machine itself. */
    private static void callAll(PlaceTimePlans plans) {
        plans.late(0, 2);
        plans.freeze(1);
        plans.run(20000);
        plans.replan(20000);
        for (int work = 0; work < 6; work++) {
            plans.slack(work);
            plans.lone(work);
            plans.told(work, 1);
            plans.at(work, 5);
            plans.passes(work, 15, true, 0);
            plans.crosses(work, 5 - work);
            plans.under(work, 3);
            plans.moved(work);
            plans.count(work);
        }
        plans.odds(90, 50, 40, 7);
        plans.bound();
        plans.proved();
        plans.tried();
        plans.after(2, 3, 4);
        plans.season(4, 1, 900);
        plans.bar(3, 15, 2);
        plans.rest(20);
        plans.most(1, 3);
        plans.learned(2, 50, 7);
        plans.crew(5);
        plans.work(0, 0, 10, 5, true);
        plans.run(20000);
    }

    private static void lookAtRoom() {
        PlaceTimePlans plans = new PlaceTimePlans();
        for (int crew = 0; crew < 4; crew++) {
            plans.crew(crew / 2);
        }
        for (int work = 0; work < 6; work++) {
            plans.work(work % 4, 0, 30 + work, 5 + work, true);
        }
        plans.after(0, 1, 2);
        plans.after(1, 4, 2);
        plans.run(20000);
        callAll(plans);
        com.sun.management.ThreadMXBean threads =
                (com.sun.management.ThreadMXBean) ManagementFactory.getThreadMXBean();
        long thread = Thread.currentThread().getId();
        long least = Long.MAX_VALUE;
        for (int time = 0; time < 5; time++) {
            long before = threads.getThreadAllocatedBytes(thread);
            callAll(plans);
            least = Math.min(least, threads.getThreadAllocatedBytes(thread) - before);
        }
        // The counting itself makes a few small objects.
        if (least > 2000) {
            fault("the calls made " + least + " bytes of objects");
        }
    }
}
