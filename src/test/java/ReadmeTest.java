import java.io.IOException;
import java.lang.reflect.Method;
import java.lang.reflect.Modifier;
import java.nio.file.Files;
import java.nio.file.Path;
import java.util.HashMap;
import java.util.List;
import java.util.Map;
import java.util.TreeSet;
import java.util.regex.Matcher;
import java.util.regex.Pattern;

/** README.md: the calls that it shows answer as it says, its table names each method, and what it names is there. */
public final class ReadmeTest {
    private static final Pattern NEW = Pattern.compile("BeamTraining (\\w+) = new BeamTraining\\(\\);");
    private static final Pattern TEXT = Pattern.compile("String text = \"([^\"]*)\";");
    private static final Pattern CALL = Pattern.compile("(\\w+)\\.(\\w+)\\(([^()]*)\\); +// (-?\\w+): .+");
    private static final String TYPING = "for (int i = 0; i < text.length(); i++) typed.type(text.charAt(i));";

    private static int wrong = 0;
    private static final Map<String, BeamTraining> objects = new HashMap<>();
    private static String text = "";

    private static void due(String what, Object got, Object want) {
        if (!got.equals(want)) {
            wrong++;
            System.out.println("README.md: " + what + ": " + got + ", due is " + want);
        }
    }

    private static void run(String line) throws ReflectiveOperationException {
        Matcher made = NEW.matcher(line);
        Matcher written = TEXT.matcher(line);
        Matcher call = CALL.matcher(line);
        if (made.matches()) {
            objects.put(made.group(1), new BeamTraining());
        } else if (written.matches()) {
            text = written.group(1);
        } else if (line.equals(TYPING)) {
            for (int i = 0; i < text.length(); i++) objects.get("typed").type(text.charAt(i));
        } else if (call.matches()) {
            due(line, answer(objects.get(call.group(1)), call.group(2), call.group(3)), told(call.group(4)));
        } else {
            due(line, "not understood", "a call with its answer");
        }
    }

    private static int answer(BeamTraining x, String name, String arguments) throws ReflectiveOperationException {
        String[] written = arguments.isEmpty() ? new String[0] : arguments.split(", ");
        Class<?>[] types = new Class<?>[written.length];
        Object[] values = new Object[written.length];
        for (int i = 0; i < written.length; i++) {
            boolean flag = written[i].equals("true") || written[i].equals("false");
            types[i] = flag ? boolean.class : int.class;
            values[i] = flag ? (Object) written[i].equals("true") : (Object) Integer.valueOf(written[i]);
        }
        return (Integer) BeamTraining.class.getMethod(name, types).invoke(x, values);
    }

    private static int told(String answer) throws ReflectiveOperationException {
        return Character.isLetter(answer.charAt(0)) ? BeamTraining.class.getField(answer).getInt(null) : Integer.parseInt(answer);
    }

    private static int runCode(List<String> lines) throws ReflectiveOperationException {
        boolean inside = false;
        int count = 0;
        for (String line : lines) {
            if (line.startsWith("```")) {
                inside = line.equals("```java");
            } else if (inside) {
                run(line);
                count++;
            }
        }
        return count;
    }

    private static void methods(List<String> lines) {
        TreeSet<String> face = new TreeSet<>();
        for (Method method : BeamTraining.class.getDeclaredMethods()) {
            if (Modifier.isPublic(method.getModifiers())) face.add(method.getName());
        }
        TreeSet<String> table = new TreeSet<>();
        for (String line : lines) {
            Matcher names = Pattern.compile("`(\\w+)`").matcher(line.startsWith("| ") ? line : "");
            while (names.find()) table.add(names.group(1));
        }
        due("the methods of its table", table, face);
    }

    private static void codes(String whole) throws ReflectiveOperationException {
        for (String name : new String[] {"OMNI", "NONE", "BAD_INDEX", "BAD_VALUE", "BAD_STATE", "FULL"}) {
            Matcher code = Pattern.compile("`" + name + "` \\((-\\d+)").matcher(whole);
            due("the code " + name, code.find() ? code.group(1) : "none", String.valueOf(told(name)));
        }
    }

    private static void files(String whole) {
        Matcher names = Pattern.compile("[./\\w]*(src|\\.ci|\\.\\./shared)/[/\\w]+(\\.\\w+)?").matcher(whole);
        while (names.find()) {
            if (!names.group().endsWith("Boundary")) due(names.group() + " is there", Files.exists(Path.of(names.group())), true);
        }
    }

    public static void main(String[] args) throws IOException, ReflectiveOperationException {
        List<String> lines = Files.readAllLines(Path.of("README.md"));
        String whole = String.join(" ", lines).replaceAll(" +", " ");
        due("some twenty lines of code", runCode(lines) >= 20, true);
        methods(lines);
        codes(whole);
        files(whole);
        System.out.println(wrong == 0 ? "README.md holds" : wrong + " faults of README.md");
        if (wrong != 0) System.exit(1);
    }
}
