import java.io.IOException;
import java.lang.reflect.Constructor;
import java.lang.reflect.Field;
import java.lang.reflect.Method;
import java.lang.reflect.Modifier;
import java.nio.file.Files;
import java.nio.file.Path;
import java.util.HashSet;
import java.util.Set;
import java.util.TreeSet;
import java.util.regex.Matcher;
import java.util.regex.Pattern;

/** The face of the class as the document tells it, and rules of LANGUAGE.md that the source shows. */
public final class FormTest {
    private static final String[] FACE = {
        "int row(int,int,int)", "int set(int,int,int)", "int copy(int,int,int,int,int)", "int drop(int)",
        "int feed(int)", "int duchy()", "int fault()", "int undo()", "int weeks(int)", "int say(int)",
        "int buy(int,int)", "int letOut(int)", "int price(int)", "int speech(int,int)", "int person(int,int)",
        "int stand(int)", "int purse(int,int)", "int hill(int)", "int known(int,int)", "int allKnow(int)",
        "int when(int)", "int most(int)", "int order(int)", "int clear()", "int deaf(int,int,int,int)",
        "int share(int,int)", "int thrift(int,int,int,int,int)", "int who(int,int,int,int,int)",
        "int priced(int,int,int,int,int)", "long heard(int,int,int,int,int)", "int drawn(int,int,int)",
        "int image(int)", "int restore(int)", "int kind(int)", "int as(int,int)", "int ask(int,int)",
        "int trace(int)", "int count(int)", "int status()"};
    private static int wrong;

    public static void main(String[] args) throws IOException {
        methods();
        constants();
        inside();
        source();
        System.out.println(wrong == 0 ? "form: as due" : "form: " + wrong + " wrong");
        if (wrong != 0) {
            System.exit(1);
        }
    }

    private static void due(String what, Object got, Object want) {
        if (!got.equals(want)) {
            wrong++;
            System.out.println(what + ": " + got + ", due is " + want);
        }
    }

    private static String told(Method m) {
        StringBuilder b = new StringBuilder(m.getReturnType().getName()).append(' ').append(m.getName()).append('(');
        String comma = "";
        for (Class<?> c : m.getParameterTypes()) {
            b.append(comma).append(c.getName());
            comma = ",";
        }
        return b.append(')').toString();
    }

    private static void methods() {
        Set<String> open = new TreeSet<>();
        for (Method m : CrierWeeks.class.getDeclaredMethods()) {
            if (!Modifier.isPrivate(m.getModifiers())) {
                open.add(told(m));
                due(m.getName() + " is public and not static", m.getModifiers(), Modifier.PUBLIC);
            }
        }
        due("the face", open, new TreeSet<>(Set.of(FACE)));
        due("the class", CrierWeeks.class.getModifiers(), Modifier.PUBLIC | Modifier.FINAL);
        Constructor<?>[] all = CrierWeeks.class.getDeclaredConstructors();
        due("constructors", all.length, 1);
        due("its parameters", all[0].getParameterCount(), 0);
        due("its sort", all[0].getModifiers(), Modifier.PUBLIC);
    }

    private static void constants() {
        Set<String> open = new TreeSet<>();
        for (Field f : CrierWeeks.class.getDeclaredFields()) {
            if (!Modifier.isPrivate(f.getModifiers())) {
                open.add(f.getName());
            }
        }
        due("constants", open, new TreeSet<>(Set.of("NONE", "BAD", "STATE", "FULL")));
        due("NONE", CrierWeeks.NONE, -1000000);
        due("BAD", CrierWeeks.BAD, -1000001);
        due("STATE", CrierWeeks.STATE, -1000002);
        due("FULL", CrierWeeks.FULL, -1000003);
    }

    private static void inside() {
        Set<String> faceNames = new HashSet<>();
        for (String told : FACE) {
            faceNames.add(told.substring(told.indexOf(' ') + 1, told.indexOf('(')));
        }
        Class<?>[] classes = CrierWeeks.class.getDeclaredClasses();
        due("twelve classes at most", classes.length + 1 <= 12, true);
        for (Class<?> c : classes) {
            due(c.getName() + " is static", Modifier.isStatic(c.getModifiers()), true);
            for (Method m : c.getDeclaredMethods()) {
                due("a name of the face in " + c.getName() + ": " + m.getName(), faceNames.contains(m.getName()), false);
                due("seven parameters at most: " + m.getName(), m.getParameterCount() <= 7, true);
            }
        }
        for (Method m : CrierWeeks.class.getDeclaredMethods()) {
            boolean hidden = Modifier.isPrivate(m.getModifiers());
            due("a hidden name of the face: " + m.getName(), hidden && faceNames.contains(m.getName()), false);
        }
    }

    private static void source() throws IOException {
        String text = Files.readString(Path.of("src/main/java/CrierWeeks.java"));
        String code = text.replaceAll("(?s)/\\*.*?\\*/", "").replaceAll("//[^\n]*", "");
        String ruledOut = "\\b(throw|throws|try|catch|synchronized|assert|import|package|double|float|hashCode|toString|Exact)\\b|->|::";
        Matcher m = Pattern.compile(ruledOut).matcher(code);
        while (m.find()) {
            due("ruled out in the source", m.group(), "");
        }
        for (String line : code.split("\n")) {
            boolean makes = line.matches(".*\\bnew\\b.*");
            boolean once = line.matches(" +(private )?final [\\w\\[\\]]+ \\w+ = new .*;| {8,}\\w+\\[\\w\\] = new \\w+\\(.*\\);");
            due("objects are made in constructors alone: " + line.trim(), makes && !once, false);
        }
        due("signs 1 to 127 alone", text.chars().allMatch(c -> c > 0 && c < 128), true);
        int begins = 0;
        String[] lines = text.split("\n");
        for (int i = 0; i < lines.length; i++) {
            if (lines[i].matches(" {4}( {4})?(public|private|static|final|int|long|boolean|void|[A-Z]\\w*)\\b.*\\(.*\\) \\{")) {
                begins = i;
            }
            if (lines[i].matches(" {4}( {4})?\\}")) {
                due("sixty lines at most, line " + (begins + 1), i - begins <= 60, true);
            }
        }
    }
}
