import java.io.IOException;
import java.lang.management.ManagementFactory;
import java.lang.reflect.Constructor;
import java.lang.reflect.Field;
import java.lang.reflect.Method;
import java.lang.reflect.Modifier;
import java.nio.charset.StandardCharsets;
import java.nio.file.Files;
import java.nio.file.Paths;
import java.util.Arrays;
import java.util.Map;
import java.util.Set;
import java.util.TreeMap;
import java.util.TreeSet;
import java.util.regex.Matcher;
import java.util.regex.Pattern;

/** The public face, and what of LANGUAGE.md can be seen from the class file, the source's words, and the room taken. */
public final class FaceTests {
    private static final String[] FACE = {
        "int see(int,int,int,int)", "int ofGlass(int,int)", "int keeps(int)", "int chafe(int,int)", "int warm(int,int)",
        "int give(int,int)", "int alive(int)", "int lay(int)", "int raise(int)", "int turn(int)", "int go(int)",
        "int life(int)", "int chronicle(int,int,int,int,int)", "int ring(int)", "int reach(int,int)", "int keeping(int)",
        "int trade(int)", "int first(int)", "int found(int,int,int,int)", "int reading(int,int,int)", "int back(int)",
        "int necks(int)", "int kinds(int)", "int keepers(int)", "long odds(int,int,int)", "int sheet(int,int,int)",
        "int lose(int)", "int put(int,int,int)", "long cell(int,int,int)", "int copy(int,int,int,int,int)",
        "int tell(int)", "int dust(int)", "int as(int,int)", "int trace()", "int fault()", "int many(int)"};
    private static final String[] CONSTANTS = {"FULL", "LOST", "NONE", "OUTSIDE", "STATE", "UNKNOWN"};
    private static final String[] FORBIDDEN = {"\\bthrow\\b", "\\btry\\b", "\\bcatch\\b", "\\bsynchronized\\b", "\\bassert\\b",
        "\\bimport\\b", "\\bpackage\\b", "->", "::", "Exact\\(", "\\bequals\\b", "\\bhashCode\\b", "\\btoString\\b",
        "\\bObject\\b", "\\bprotected\\b", "\\bnative\\b", "\\bvolatile\\b", "[^\\x00-\\x7f]"};

    public static void main(String[] args) throws IOException {
        face();
        classesInside();
        words();
        shape();
        room();
        Desk.end();
    }

    private static String typesOf(Class<?>[] types) {
        StringBuilder all = new StringBuilder();
        for (Class<?> type : types) {
            all.append(all.length() == 0 ? "" : ",").append(type.getSimpleName());
        }
        return all.toString();
    }

    private static void face() {
        Class<?> c = SandKeepers.class;
        Desk.isTrue("public and final", Modifier.isPublic(c.getModifiers()) && Modifier.isFinal(c.getModifiers()));
        Constructor<?>[] made = c.getDeclaredConstructors();
        Desk.isTrue("one public constructor", made.length == 1 && Modifier.isPublic(made[0].getModifiers())
            && made[0].getParameterCount() == 0);
        Set<String> open = new TreeSet<>();
        for (Method m : c.getDeclaredMethods()) {
            if (!Modifier.isPrivate(m.getModifiers())) {
                Desk.isTrue(m + " is public and of objects", Modifier.isPublic(m.getModifiers()) && !Modifier.isStatic(m.getModifiers()));
                open.add(m.getReturnType().getSimpleName() + " " + m.getName() + "(" + typesOf(m.getParameterTypes()) + ")");
            }
        }
        Desk.isTrue("the face's methods: " + open, open.equals(new TreeSet<>(Arrays.asList(FACE))));
        Set<String> constants = new TreeSet<>();
        for (Field f : c.getDeclaredFields()) {
            if (!Modifier.isPrivate(f.getModifiers())) {
                Desk.isTrue(f + " is a constant", Modifier.isPublic(f.getModifiers()) && Modifier.isStatic(f.getModifiers()));
                constants.add(f.getName());
            }
        }
        Desk.isTrue("the face's constants: " + constants, constants.equals(new TreeSet<>(Arrays.asList(CONSTANTS))));
    }

    private static void classesInside() {
        Set<String> names = new TreeSet<>();
        for (String method : FACE) {
            names.add(method.substring(method.indexOf(' ') + 1, method.indexOf('(')));
        }
        Class<?>[] inside = SandKeepers.class.getDeclaredClasses();
        Desk.isTrue("some twelve classes at most", inside.length <= 11);
        for (Class<?> c : inside) {
            Desk.isTrue(c + " is static", Modifier.isStatic(c.getModifiers()));
            Desk.isTrue(c + " is not public", !Modifier.isPublic(c.getModifiers()));
            for (Method m : c.getDeclaredMethods()) {
                Desk.isTrue(m + " bears a name of its own", !names.contains(m.getName()));
                Desk.isTrue(m + " takes seven at most", m.getParameterCount() <= 7);
            }
            finalStatics(c);
        }
        for (Method m : SandKeepers.class.getDeclaredMethods()) {
            Desk.isTrue(m + " bears a name of its own", Modifier.isPublic(m.getModifiers()) || !names.contains(m.getName()));
        }
        finalStatics(SandKeepers.class);
    }

    private static void finalStatics(Class<?> c) {
        int own = 0;
        for (Field f : c.getDeclaredFields()) {
            if (Modifier.isStatic(f.getModifiers())) {
                Desk.isTrue(f + " is final", Modifier.isFinal(f.getModifiers()));
            } else {
                own++;
            }
        }
        Desk.isTrue(c + " has some twenty fields at most", own <= 20);
    }

    private static void words() throws IOException {
        String source = new String(Files.readAllBytes(Paths.get("src/main/java/SandKeepers.java")), StandardCharsets.ISO_8859_1);
        String code = source.replaceAll("(?s)/\\*.*?\\*/", " ").replaceAll("//[^\n]*", " ");
        for (String word : FORBIDDEN) {
            Desk.isTrue("no " + word, !Pattern.compile(word).matcher(code).find());
        }
        Matcher library = Pattern.compile("\\b([A-Z][a-z]\\w*)\\.(\\w+)").matcher(code);
        Set<String> used = new TreeSet<>();
        while (library.find()) {
            used.add(library.group());
        }
        used.removeAll(Arrays.asList("Integer.bitCount", "Math.max", "Long.MIN_VALUE", "System.arraycopy"));
        Desk.isTrue("no other library: " + used, used.isEmpty());
    }

    /** Bodies of methods by their names; several of one name are taken as one. */
    private static Map<String, String> bodies(String code) {
        Map<String, String> bodies = new TreeMap<>();
        Matcher start = Pattern.compile("(?m)^( +)(?:public |private )(?:static )?[\\w\\[\\]]+ (\\w+)\\([^)]*\\) \\{\n").matcher(code);
        while (start.find()) {
            int end = code.indexOf("\n" + start.group(1) + "}\n", start.end() - 1);
            bodies.merge(start.group(2), code.substring(start.end(), Math.max(start.end(), end)), String::concat);
        }
        return bodies;
    }

    /** How deep calls go from a method on; far above all that is allowed, if it comes to itself again. */
    private static int depth(Map<String, String> bodies, String method, int open) {
        int deepest = 0;
        Matcher called = Pattern.compile("\\b(\\w+)\\(").matcher(bodies.get(method));
        while (called.find() && open < 40) {
            if (bodies.containsKey(called.group(1))) {
                deepest = Math.max(deepest, depth(bodies, called.group(1), open + 1));
            }
        }
        return deepest + 1;
    }

    private static void shape() throws IOException {
        String source = new String(Files.readAllBytes(Paths.get("src/main/java/SandKeepers.java")), StandardCharsets.ISO_8859_1);
        Map<String, String> bodies = bodies(source);
        for (String method : FACE) {
            Desk.isTrue("found " + method, bodies.containsKey(method.substring(method.indexOf(' ') + 1, method.indexOf('('))));
        }
        for (String method : bodies.keySet()) {
            int length = bodies.get(method).split("\n").length;
            Desk.isTrue(method + " has some sixty lines at most: " + length, length <= 60);
            Desk.isTrue(method + " calls no deeper than eight", depth(bodies, method, 1) <= 8);
        }
        Desk.isTrue("each loop counts", !Pattern.compile("\\b(while|do)\\b|for \\(\\s*;|; *;").matcher(source).find());
    }

    /** All calls live in one room: none makes an object, and a new object is small. */
    private static void room() {
        com.sun.management.ThreadMXBean meter = (com.sun.management.ThreadMXBean) ManagementFactory.getThreadMXBean();
        long self = Thread.currentThread().getId();
        SandKeepers x = Desk.seen(SeeTests.FOUR);
        allCalls(x);
        long before = meter.getThreadAllocatedBytes(self);
        for (int i = 0; i < 2000; i++) {
            allCalls(x);
        }
        long byCalls = meter.getThreadAllocatedBytes(self) - before;
        Desk.isTrue("calls make nothing: " + byCalls + " bytes", byCalls < 100_000);
        before = meter.getThreadAllocatedBytes(self);
        for (int i = 0; i < 1000; i++) {
            new SandKeepers().many(0);
        }
        long byNew = (meter.getThreadAllocatedBytes(self) - before) / 1000;
        Desk.isTrue("a new object is small: " + byNew + " bytes", byNew < 8_000);
    }

    private static void allCalls(SandKeepers x) {
        x.see(3, 0, 0, 30);
        x.sheet(1, 0, 8);
        x.put(1, 1, 9);
        x.cell(1, 1, 0);
        x.copy(1, 0, 1, 2, 4);
        x.chronicle(1, 0, 0, 3, 0);
        x.found(1, 0, 0, 3);
        x.keeping(3);
        x.trade(0);
        x.first(0);
        x.reading(0, 0, 10);
        x.necks(0);
        x.kinds(0);
        x.keepers(0);
        x.odds(0, 3, 0);
        x.go(2);
        x.lay(0);
        x.raise(0);
        x.turn(0);
        x.tell(2);
        x.dust(2);
        x.as(0, 2);
        x.ring(0);
        x.reach(0, 3);
        x.lose(1);
        x.many(1);
    }
}
