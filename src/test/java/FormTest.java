import java.io.IOException;
import java.lang.reflect.Array;
import java.lang.reflect.Constructor;
import java.lang.reflect.Field;
import java.lang.reflect.Method;
import java.lang.reflect.Modifier;
import java.nio.file.Files;
import java.nio.file.Path;
import java.util.Arrays;
import java.util.HashMap;
import java.util.HashSet;
import java.util.IdentityHashMap;
import java.util.Map;
import java.util.Set;
import java.util.TreeSet;
import java.util.regex.Matcher;
import java.util.regex.Pattern;

/** The face of the class as the document tells it, and rules of LANGUAGE.md that the source shows. */
public final class FormTest {
    private static final String[] FACE = {
        "int row(int,int,int)", "int set(int,int,int)", "int copy(int,int,int,int,int)", "int drop(int)",
        "int feed(int)", "int duchy()", "int fault()", "int undo()", "int weeks(int)", "int say(int)",
        "int buy(int,int)", "int letOut(int)", "int price(int)", "int speech(int,int)", "int person(int,int)",
        "int stand(int)", "int purse(int,int)", "int hill(int)", "int known(int,int)", "int allKnow(int)",
        "int when(int)", "int most(int)", "int order(int)", "int clear()", "int deaf(int,int,int,int)",
        "int share(int,int)", "int thrift(int,int,int,int,int)", "int who(int,int,int,int,int)",
        "int priced(int,int,int,int,int)", "long heard(int,int,int,int,int)", "int drawn(int,int,int)",
        "int image(int)", "int restore(int)", "int kind(int)", "int as(int,int)", "int ask(int,int)",
        "int trace(int)", "int count(int)", "int status()"};
    private static int wrong;

    public static void main(String[] args) throws IOException, ReflectiveOperationException {
        methods();
        constants();
        inside();
        source();
        depth();
        room();
        System.out.println(wrong == 0 ? "form: as due" : "form: " + wrong + " wrong");
        if (wrong != 0) {
            System.exit(1);
        }
    }

    private static void due(String what, Object got, Object want) {
        if (!got.equals(want)) {
            wrong++;
            System.out.println(what + ": " + got + ", due is " + want);
        }
    }

    private static String told(Method m) {
        StringBuilder b = new StringBuilder(m.getReturnType().getName()).append(' ').append(m.getName()).append('(');
        String comma = "";
        for (Class<?> c : m.getParameterTypes()) {
            b.append(comma).append(c.getName());
            comma = ",";
        }
        return b.append(')').toString();
    }

    private static void methods() {
        Set<String> open = new TreeSet<>();
        for (Method m : CrierWeeks.class.getDeclaredMethods()) {
            if (!Modifier.isPrivate(m.getModifiers())) {
                open.add(told(m));
                due(m.getName() + " is public and not static", m.getModifiers(), Modifier.PUBLIC);
            }
        }
        due("the face", open, new TreeSet<>(Set.of(FACE)));
        due("the class", CrierWeeks.class.getModifiers(), Modifier.PUBLIC | Modifier.FINAL);
        Constructor<?>[] all = CrierWeeks.class.getDeclaredConstructors();
        due("constructors", all.length, 1);
        due("its parameters", all[0].getParameterCount(), 0);
        due("its sort", all[0].getModifiers(), Modifier.PUBLIC);
    }

    private static void constants() {
        Set<String> open = new TreeSet<>();
        for (Field f : CrierWeeks.class.getDeclaredFields()) {
            if (!Modifier.isPrivate(f.getModifiers())) {
                open.add(f.getName());
            }
        }
        due("constants", open, new TreeSet<>(Set.of("NONE", "BAD", "STATE", "FULL")));
        due("NONE", CrierWeeks.NONE, -1000000);
        due("BAD", CrierWeeks.BAD, -1000001);
        due("STATE", CrierWeeks.STATE, -1000002);
        due("FULL", CrierWeeks.FULL, -1000003);
    }

    private static void inside() {
        Set<String> faceNames = new HashSet<>();
        for (String told : FACE) {
            faceNames.add(told.substring(told.indexOf(' ') + 1, told.indexOf('(')));
        }
        Class<?>[] classes = CrierWeeks.class.getDeclaredClasses();
        due("twelve classes at most", classes.length + 1 <= 12, true);
        for (Class<?> c : classes) {
            due(c.getName() + " is static", Modifier.isStatic(c.getModifiers()), true);
            for (Method m : c.getDeclaredMethods()) {
                due("a name of the face in " + c.getName() + ": " + m.getName(), faceNames.contains(m.getName()), false);
                due("seven parameters at most: " + m.getName(), m.getParameterCount() <= 7, true);
            }
        }
        for (Method m : CrierWeeks.class.getDeclaredMethods()) {
            boolean hidden = Modifier.isPrivate(m.getModifiers());
            due("a hidden name of the face: " + m.getName(), hidden && faceNames.contains(m.getName()), false);
        }
    }

    private static void source() throws IOException {
        String text = Files.readString(Path.of("src/main/java/CrierWeeks.java"));
        String code = text.replaceAll("(?s)/\\*.*?\\*/", "").replaceAll("//[^\n]*", "");
        String ruledOut = "\\b(throw|throws|try|catch|synchronized|assert|import|package|double|float|hashCode|toString|Exact)\\b|->|::";
        Matcher m = Pattern.compile(ruledOut).matcher(code);
        while (m.find()) {
            due("ruled out in the source", m.group(), "");
        }
        for (String line : code.split("\n")) {
            boolean makes = line.matches(".*\\bnew\\b.*");
            boolean once = line.matches(" +(private )?final [\\w\\[\\]]+ \\w+ = new .*;| {8,}\\w+\\[\\w\\] = new \\w+\\(.*\\);");
            due("objects are made in constructors alone: " + line.trim(), makes && !once, false);
        }
        due("signs 1 to 127 alone", text.chars().allMatch(c -> c > 0 && c < 128), true);
        int begins = 0;
        String[] lines = text.split("\n");
        for (int i = 0; i < lines.length; i++) {
            if (lines[i].matches(" {4}( {4})?(public|private|static|final|int|long|boolean|void|[A-Z]\\w*)\\b.*\\(.*\\) \\{")) {
                begins = i;
            }
            if (lines[i].matches(" {4}( {4})?\\}")) {
                due("sixty lines at most, line " + (begins + 1), i - begins <= 60, true);
            }
        }
    }

    /** Rule 11: calls that are no recursion go at most eight deep; methods of one name are taken as one. */
    private static void depth() throws IOException {
        String text = Files.readString(Path.of("src/main/java/CrierWeeks.java"));
        Pattern begins = Pattern.compile(" {4}(?: {4})?(?:(?:public|private|static|final) )*[\\w\\[\\]]+ (\\w+)\\(.*\\) \\{");
        Map<String, StringBuilder> bodies = new HashMap<>();
        String name = "";
        for (String line : text.split("\n")) {
            Matcher m = begins.matcher(line);
            if (m.matches()) {
                name = m.group(1);
                bodies.putIfAbsent(name, new StringBuilder());
            } else if (!name.isEmpty()) {
                bodies.get(name).append(line).append('\n');
            }
        }
        due("all methods are seen", bodies.keySet().containsAll(Set.of("duchy", "isFigure", "goOn", "heard", "put")), true);
        int deepest = 0;
        for (String from : bodies.keySet()) {
            deepest = Math.max(deepest, deepestFrom(from, bodies, new HashSet<>()));
        }
        due("eight deep at most, " + deepest, deepest <= 8, true);
        due("calls are seen, " + deepest, deepest > 4, true);
    }

    private static int deepestFrom(String from, Map<String, StringBuilder> bodies, Set<String> open) {
        open.add(from);
        int below = 0;
        Matcher m = Pattern.compile("\\b(\\w+)\\(").matcher(bodies.get(from));
        while (m.find()) {
            if (bodies.containsKey(m.group(1)) && !open.contains(m.group(1))) {
                below = Math.max(below, deepestFrom(m.group(1), bodies, open));
            }
        }
        open.remove(from);
        return below + 1;
    }

    /** All calls of one run live in one room: an object is small, and no call makes another. */
    private static void room() throws ReflectiveOperationException {
        CrierWeeks x = new CrierWeeks();
        Map<Object, Object> at = new IdentityHashMap<>();
        int elements = reach(x, at);
        due("objects as README.md tells, " + at.size(), at.size(), 201);
        due("2000 fields and elements at most, " + elements, elements <= 2000, true);
        for (char c : "c20,2;z40,3;z9,1;n0,9,0;w1,4,0;".toCharArray()) {
            x.feed(c);
        }
        x.duchy();
        everyCall(x);
        Map<Object, Object> then = new IdentityHashMap<>();
        due("as many elements behind every call", reach(x, then), elements);
        due("the same objects behind every call", at.keySet().containsAll(then.keySet()) && at.size() == then.size(), true);
    }

    private static void everyCall(CrierWeeks x) throws ReflectiveOperationException {
        for (Method m : CrierWeeks.class.getDeclaredMethods()) {
            if (Modifier.isPublic(m.getModifiers())) {
                for (int v = 0; v < 3; v++) {
                    Object[] values = new Object[m.getParameterCount()];
                    Arrays.fill(values, v);
                    m.invoke(x, values);
                }
            }
        }
    }

    /** Fields and elements of all that can be reached from one. */
    private static int reach(Object one, Map<Object, Object> seen) throws ReflectiveOperationException {
        if (one == null || seen.put(one, one) != null) {
            return 0;
        }
        int elements = 0;
        if (one.getClass().isArray()) {
            return Array.getLength(one) + reachItems(one, seen);
        }
        for (Field f : one.getClass().getDeclaredFields()) {
            if (!Modifier.isStatic(f.getModifiers())) {
                f.setAccessible(true);
                elements += 1 + (f.getType().isPrimitive() ? 0 : reach(f.get(one), seen));
            }
        }
        return elements;
    }

    private static int reachItems(Object array, Map<Object, Object> seen) throws ReflectiveOperationException {
        int elements = 0;
        if (!array.getClass().getComponentType().isPrimitive()) {
            for (int i = 0; i < Array.getLength(array); i++) {
                elements += reach(Array.get(array, i), seen);
            }
        }
        return elements;
    }
}
