import java.io.IOException;
import java.lang.reflect.InvocationTargetException;
import java.lang.reflect.Method;
import java.lang.reflect.Modifier;
import java.nio.file.Files;
import java.nio.file.Path;
import java.util.List;
import java.util.TreeSet;
import java.util.regex.Matcher;
import java.util.regex.Pattern;

/**
 * The examples of README.md answer as README.md says. Each is a block of Java whose first
 * line makes a room and whose other lines are a call each, with its answer as a comment.
 * A line of another form is a fault, so that none stays unchecked.
 */
public final class ProcessRoomReadme {
    private static final String START = "```java";
    private static final String FENCE = "```";
    private static final String NEW_ROOM = "ProcessRoom room = new ProcessRoom();";
    private static final Pattern CALL =
        Pattern.compile("room\\.([a-z]+)\\(((?:-?\\d+(?:, -?\\d+)*)?)\\);\\s+// (true|false|NONE|-?\\d+)(?:: .+)?");

    private static final TreeSet<String> unseen = namesOfCalls();
    private static int wrong = 0;

    public static void main(String[] args) throws IOException {
        // .ci/run starts every test in the project's directory.
        checkExamples(Files.readAllLines(Path.of("README.md")));
        for (String name : unseen) {
            complain("no example calls " + name);
        }
        System.out.println(wrong == 0 ? "the examples of README.md answer as it says" : wrong + " faults in README.md");
        if (wrong != 0) {
            System.exit(1);
        }
    }

    private static TreeSet<String> namesOfCalls() {
        TreeSet<String> names = new TreeSet<>();
        for (Method method : ProcessRoom.class.getDeclaredMethods()) {
            if (Modifier.isPublic(method.getModifiers())) {
                names.add(method.getName());
            }
        }
        return names;
    }

    private static void complain(String text) {
        wrong++;
        System.out.println(text);
    }

    private static void complainIf(boolean bad, String text) {
        if (bad) {
            complain(text);
        }
    }

    private static void checkExamples(List<String> lines) {
        boolean inExample = false;
        ProcessRoom room = null;
        for (int k = 0; k < lines.size(); k++) {
            String line = lines.get(k);
            String where = "README.md, line " + (k + 1) + ": " + line;
            if (line.equals(START) && !inExample) {
                inExample = true;
                room = null;
            } else if (!inExample) {
                complainIf(line.startsWith(FENCE), where + " (a block that is no example)");
            } else if (line.equals(FENCE)) {
                inExample = false;
            } else if (line.equals(NEW_ROOM)) {
                room = new ProcessRoom();
            } else {
                checkCall(room, line, where);
            }
        }
        complainIf(inExample, "README.md ends within an example");
    }

    private static void checkCall(ProcessRoom room, String line, String where) {
        Matcher call = CALL.matcher(line);
        if (room == null || !call.matches()) {
            complain(where + " (not a call with its answer, of a room made before)");
            return;
        }
        String due = call.group(3).equals("NONE") ? "-1" : call.group(3);
        String got = answer(room, call.group(1), call.group(2));
        if (!got.equals(due)) {
            complain(where + " (answered " + got + ")");
        }
    }

    private static String answer(ProcessRoom room, String name, String arguments) {
        String[] words = arguments.isEmpty() ? new String[0] : arguments.split(", ");
        Class<?>[] types = new Class<?>[words.length];
        Object[] values = new Object[words.length];
        try {
            for (int i = 0; i < words.length; i++) {
                types[i] = int.class;
                values[i] = Integer.valueOf(words[i]);
            }
            Object got = ProcessRoom.class.getMethod(name, types).invoke(room, values);
            unseen.remove(name);
            return String.valueOf(got);
        } catch (NumberFormatException | NoSuchMethodException | IllegalAccessException | InvocationTargetException e) {
            return e.toString();
        }
    }
}
