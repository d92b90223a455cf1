import java.io.IOException;
import java.lang.reflect.InvocationTargetException;
import java.lang.reflect.Method;
import java.lang.reflect.Modifier;
import java.nio.file.Files;
import java.nio.file.Path;
import java.util.ArrayList;
import java.util.List;
import java.util.regex.Matcher;
import java.util.regex.Pattern;

/** Makes the calls that README.md shows, in their order, and looks at what it says behind them. */
public final class FormHouseReadme {
    private static final Pattern CALL =
        Pattern.compile("house\\.(\\w+)\\(([-\\d, ]*)\\);\\s*// (?:(-?\\d+)\\b|throws (\\w+)).*");
    private static final String NEW = "FormHouse house = new FormHouse();";

    private static final List<String> shown = new ArrayList<>();
    private static int wrong = 0;
    private static int made = 0;

    public static void main(String[] args) throws IOException {
        FormHouse house = null;
        for (String line : linesOfCode(Files.readAllLines(Path.of("README.md")))) {
            Matcher call = CALL.matcher(line);
            if (line.equals(NEW)) {
                house = new FormHouse();
            } else if (house != null && call.matches()) {
                String want = call.group(3) != null ? call.group(3) : call.group(4);
                due(line, answer(house, call.group(1), call.group(2)), want);
            } else {
                due(line, "no call that can be read", "one");
            }
        }
        dueAllShown();
        System.out.println(wrong == 0 ? "all " + made + " calls answer as README.md says" : wrong + " don't");
        if (wrong != 0) {
            System.exit(1);
        }
    }

    private static List<String> linesOfCode(List<String> lines) {
        List<String> code = new ArrayList<>();
        boolean inside = false;
        for (String line : lines) {
            if (line.startsWith("```")) {
                inside = line.equals("```java");
            } else if (inside) {
                code.add(line);
            }
        }
        return code;
    }

    private static String answer(FormHouse house, String name, String written) {
        String[] parts = written.split(", ");
        Class<?>[] types = new Class<?>[parts.length];
        Object[] values = new Object[parts.length];
        for (int i = 0; i < parts.length; i++) {
            types[i] = int.class;
            values[i] = Integer.parseInt(parts[i]);
        }
        made++;
        try {
            Method method = FormHouse.class.getMethod(name, types);
            shown.add(name);
            return String.valueOf(method.invoke(house, values));
        } catch (InvocationTargetException e) {
            return e.getCause().getClass().getSimpleName();
        } catch (ReflectiveOperationException e) {
            return "there is no such method";
        }
    }

    /** A method of the face that README.md doesn't show is missing there. */
    private static void dueAllShown() {
        for (Method method : FormHouse.class.getDeclaredMethods()) {
            if (Modifier.isPublic(method.getModifiers()) && !shown.contains(method.getName())) {
                due("README.md on " + method.getName(), "nothing", "a call");
            }
        }
    }

    private static void due(String line, String got, String want) {
        if (!got.equals(want)) {
            wrong++;
            System.out.println(line + " answered " + got + ", due is " + want);
        }
    }
}
