import java.io.IOException;
import java.lang.management.ManagementFactory;
import java.lang.reflect.Constructor;
import java.lang.reflect.Field;
import java.lang.reflect.Method;
import java.lang.reflect.Modifier;
import java.nio.file.Files;
import java.nio.file.Path;
import java.util.Arrays;
import java.util.Random;
import java.util.Set;
import java.util.TreeSet;
import java.util.regex.Matcher;
import java.util.regex.Pattern;

/**
 * The public face is the document's; the source keeps to the rules that a look at it can tell; no call throws, and
 * calls make no objects.
 */
public final class FaceAndLanguageTests {
    private static final String[] METHODS = {
        "part(int,int)", "add()", "take(int)", "remove(int)", "bar(int,boolean)", "clean()", "rule(int,int)",
        "exact(int)", "look(int,int)", "brief(int,int,int)", "recall(int,int)", "at(int)", "far(int)",
        "between(int,int)", "steps()", "level(int)", "entry()", "neighbour(int,int,int)", "reached()", "count(int)"};
    private static int wrong = 0;

    public static void main(String[] args) throws IOException {
        face();
        language();
        noCallThrows();
        room();
        System.out.println(wrong == 0 ? "all is as due" : wrong + " things are not as due");
        if (wrong != 0) {
            System.exit(1);
        }
    }

    private static void holds(String what, boolean held) {
        if (!held) {
            wrong++;
            System.out.println("does not hold: " + what);
        }
    }

    private static String inputs(Class<?>[] types) {
        StringBuilder text = new StringBuilder();
        for (Class<?> type : types) {
            text.append(text.length() == 0 ? "" : ",").append(type.getName());
        }
        return "(" + text + ")";
    }

    private static void face() {
        Class<?> face = VectorGraphs.class;
        holds("the class is public and final", Modifier.isPublic(face.getModifiers()) && Modifier.isFinal(face.getModifiers()));
        holds("the constants", VectorGraphs.BAD == -1 && VectorGraphs.NONE == -2 && VectorGraphs.FULL == -3);
        Set<String> open = new TreeSet<>();
        Set<String> publicNames = new TreeSet<>();
        for (Method method : face.getDeclaredMethods()) {
            if (!Modifier.isPrivate(method.getModifiers())) {
                open.add(method.getName() + inputs(method.getParameterTypes()));
                publicNames.add(method.getName());
                holds(method + " is public and answers int", Modifier.isPublic(method.getModifiers()) && method.getReturnType() == int.class);
            }
        }
        holds("the methods are " + open, open.equals(new TreeSet<>(Arrays.asList(METHODS))));
        for (Method method : face.getDeclaredMethods()) {
            holds(method + " has no public one's name", !Modifier.isPrivate(method.getModifiers()) || !publicNames.contains(method.getName()));
        }
        for (Field field : face.getDeclaredFields()) {
            boolean constant = Set.of("BAD", "NONE", "FULL").contains(field.getName());
            holds(field + " is as open as it may be", constant == Modifier.isPublic(field.getModifiers())
                && constant != Modifier.isPrivate(field.getModifiers()));
        }
        Constructor<?>[] made = face.getDeclaredConstructors();
        holds("one constructor", made.length == 1 && inputs(made[0].getParameterTypes()).equals("(int,int)"));
        for (Class<?> inside : face.getDeclaredClasses()) {
            holds(inside + " is static", Modifier.isStatic(inside.getModifiers()));
            for (Method method : inside.getDeclaredMethods()) {
                holds(method + " has no public one's name", !publicNames.contains(method.getName()));
            }
            for (Field field : inside.getDeclaredFields()) {
                holds(field + " is final if static", !Modifier.isStatic(field.getModifiers()) || Modifier.isFinal(field.getModifiers()));
            }
        }
    }

    private static void language() throws IOException {
        String source = Files.readString(Path.of("src/main/java/VectorGraphs.java"));
        String code = source.replaceAll("(?s)/\\*.*?\\*/", "").replaceAll("//[^\n]*", "");
        String[] never = {"throw", "try", "catch", "synchronized", "assert", "package", "import", "native", "volatile",
            "Thread", "Random", "hashCode", "toString", "equals", "Object", "var"};
        for (String word : never) {
            holds("no word " + word, !Pattern.compile("\\b" + word + "\\b").matcher(code).find());
        }
        holds("no lambda, no method reference", !code.contains("->") && !code.contains("::"));
        holds("no static block", !Pattern.compile("static\\s*\\{").matcher(code).find());
        holds("no while: each loop counts in its own lines", !Pattern.compile("\\bwhile\\b").matcher(code).find());
        Matcher library = Pattern.compile("\\b(Math|System|Integer|Long|Arrays|String)\\.(\\w+)").matcher(code);
        while (library.find()) {
            holds("the library's " + library.group(), Set.of("Math.max", "Math.min", "System.arraycopy").contains(library.group()));
        }
    }

    /** Rule 7: whatever the arguments and the state are; an object that throws ends this program. */
    private static void noCallThrows() {
        Random random = new Random(5);
        for (int run = 0; run < 60; run++) {
            VectorGraphs x = new VectorGraphs(wild(random), random.nextInt());
            // far behind the 512th call its answers are free, but it still answers
            for (int k = 0; k < 3000; k++) {
                anyCall(x, random);
            }
            holds("PARTS 1 .. 8", x.count(4) >= 1 && x.count(4) <= 8);
            holds("VECTORS 0 .. 100", x.count(0) >= 0 && x.count(0) <= 100);
        }
    }

    private static int wild(Random random) {
        switch (random.nextInt(6)) {
            case 0: return random.nextInt();
            case 1: return Integer.MIN_VALUE + random.nextInt(3);
            case 2: return Integer.MAX_VALUE - random.nextInt(3);
            case 3: return random.nextInt(210) - 105;
            default: return random.nextInt(9) - 1;
        }
    }

    private static void anyCall(VectorGraphs x, Random random) {
        int a = wild(random);
        int b = wild(random);
        int c = wild(random);
        switch (random.nextInt(24)) {
            case 0: x.part(a, b); break;
            case 1: x.take(a); break;
            case 2: x.remove(a); break;
            case 3: x.bar(a, random.nextBoolean()); break;
            case 4: if (random.nextInt(20) == 0) { x.clean(); } break;
            case 5: x.rule(a, b); break;
            case 6: x.exact(a); break;
            case 7: x.look(a, b); break;
            case 8: x.brief(a, b, c); break;
            case 9: x.recall(a, b); break;
            case 10: x.at(a); break;
            case 11: x.far(a); break;
            case 12: x.between(a, b); break;
            case 13: x.steps(); break;
            case 14: x.level(a); break;
            case 15: x.entry(); break;
            case 16: x.neighbour(a, b, c); break;
            case 17: x.reached(); break;
            case 18: x.count(a); break;
            case 19: x.part(random.nextInt(8), random.nextInt(201) - 100); break;
            default: x.add();
        }
    }

    /** All that a run makes is made with the object: 512 dear calls make next to nothing. */
    private static void room() {
        com.sun.management.ThreadMXBean bean = (com.sun.management.ThreadMXBean) ManagementFactory.getThreadMXBean();
        // once before, so that what loading the classes makes is not counted
        dearCalls(new VectorGraphs(8, 3));
        bean.getCurrentThreadAllocatedBytes();
        long atFirst = bean.getCurrentThreadAllocatedBytes();
        VectorGraphs x = new VectorGraphs(8, 3);
        long made = bean.getCurrentThreadAllocatedBytes();
        dearCalls(x);
        long after = bean.getCurrentThreadAllocatedBytes();
        holds("the constructor makes less than 64 KiB: " + (made - atFirst), made - atFirst < 65536);
        holds("512 calls make less than 4 KiB: " + (after - made), after - made < 4096);
    }

    private static void dearCalls(VectorGraphs x) {
        for (int i = 0; i < 100; i++) {
            x.part(i % 8, i * 37 % 201 - 100);
            x.add();
        }
        for (int i = 0; i < 39; i++) {
            x.rule(i % 3, i % 3 == 1 ? 2 + i % 5 : i % 2);
            x.look(60, 60);
            x.recall(60, 60);
            x.brief(50, 100, 1 + i);
            x.exact(100);
            x.reached();
            x.remove(i);
            x.clean();
        }
    }
}
