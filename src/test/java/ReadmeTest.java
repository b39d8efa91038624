import java.io.IOException;
import java.lang.reflect.Method;
import java.lang.reflect.Modifier;
import java.nio.file.Files;
import java.nio.file.Path;
import java.util.regex.Matcher;
import java.util.regex.Pattern;

/** What README.md tells of the class is so: its example's answers, its table of calls, its numbers of refusals. */
public final class ReadmeTest {
    private static final Pattern CALL = Pattern.compile("x\\.(\\w+)\\((.*?)\\); *// (-?\\d+):.*");
    private static final Pattern TEXT = Pattern.compile(" +// (c\\d+,\\S+;)");
    private static int wrong;

    public static void main(String[] args) throws IOException, ReflectiveOperationException {
        String text = Files.readString(Path.of("README.md"));
        example(text);
        table(text);
        refusals(text);
        System.out.println(wrong == 0 ? "readme: as told" : "readme: " + wrong + " wrong");
        if (wrong != 0) {
            System.exit(1);
        }
    }

    private static void due(String what, long got, long want) {
        if (got != want) {
            wrong++;
            System.out.println("README.md, " + what + ": " + got + ", due is " + want);
        }
    }

    private static void example(String text) throws ReflectiveOperationException {
        CrierWeeks x = new CrierWeeks();
        int calls = 0;
        for (String line : text.split("\n")) {
            Matcher call = CALL.matcher(line);
            Matcher tape = TEXT.matcher(line);
            if (call.matches()) {
                calls++;
                due(line, answer(x, call.group(1), call.group(2)), Long.parseLong(call.group(3)));
            } else if (tape.matches()) {
                feedRest(x, tape.group(1));
            }
        }
        due("calls of the example", calls, 24);
    }

    /** The example feeds the first byte by itself. */
    private static void feedRest(CrierWeeks x, String tape) {
        for (int i = 1; i < tape.length(); i++) {
            due("feed", x.feed(tape.charAt(i)), i + 1);
        }
    }

    private static long answer(CrierWeeks x, String name, String told) throws ReflectiveOperationException {
        String[] parts = told.isEmpty() ? new String[0] : told.split(", ");
        Class<?>[] types = new Class<?>[parts.length];
        Object[] values = new Object[parts.length];
        for (int i = 0; i < parts.length; i++) {
            types[i] = int.class;
            values[i] = parts[i].startsWith("'") ? parts[i].charAt(1) : Integer.parseInt(parts[i]);
        }
        return ((Number) CrierWeeks.class.getMethod(name, types).invoke(x, values)).longValue();
    }

    private static void table(String text) {
        StringBuilder rows = new StringBuilder();
        for (String line : text.split("\n")) {
            if (line.startsWith("| ")) {
                rows.append(line.substring(line.lastIndexOf('|', line.length() - 2))).append('\n');
            }
        }
        int named = 0;
        for (Method m : CrierWeeks.class.getDeclaredMethods()) {
            if (Modifier.isPublic(m.getModifiers())) {
                named++;
                due("the table names " + m.getName(), rows.toString().split("`" + m.getName() + "`", -1).length - 1, 1);
            }
        }
        due("calls in the table", rows.chars().filter(c -> c == '`').count(), 2L * named);
    }

    private static void refusals(String text) {
        due("NONE", told(text, "`NONE` (-\\d+)"), CrierWeeks.NONE);
        due("BAD", told(text, "`BAD` (-\\d+)"), CrierWeeks.BAD);
        due("STATE", told(text, "`STATE` (-\\d+)"), CrierWeeks.STATE);
        due("FULL", told(text, "`FULL` (-\\d+)"), CrierWeeks.FULL);
        CrierWeeks x = new CrierWeeks();
        due("NULL", told(text, "(-\\d+) NULL"), x.drop(0));
        due("SIZE", told(text, "(-\\d+) SIZE"), x.row(0, 0, -1));
        x.row(0, 0, 1);
        x.row(1, 1, 1);
        due("PLACE", told(text, "(-\\d+) PLACE"), x.set(0, 1, 0));
        due("KIND", told(text, "(-\\d+) KIND"), x.priced(0, 0, 1, 0, 1));
        due("STORE", told(text, "(-\\d+) STORE"), x.copy(0, 0, 1, 0, 1));
    }

    private static long told(String text, String form) {
        Matcher m = Pattern.compile(form).matcher(text);
        return m.find() ? Long.parseLong(m.group(1)) : 0;
    }
}
