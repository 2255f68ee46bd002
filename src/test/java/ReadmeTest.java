import java.io.IOException;
import java.lang.reflect.InvocationTargetException;
import java.lang.reflect.Method;
import java.nio.file.Files;
import java.nio.file.Path;
import java.util.regex.Matcher;
import java.util.regex.Pattern;

/** README.md's run of calls answers what stands beside each call, and its table tells of every call of the face. */
final class ReadmeTest {
    private static final Checks CHECKS = new Checks();
    private static final Pattern CALL = Pattern.compile("town\\.(\\w+)\\(([^)]*)\\); +// (.+)");

    public static void main(String[] args) throws IOException, IllegalAccessException {
        String readme = Files.readString(Path.of("README.md"));
        playRun(readme);
        for (Method m : BinRounds.class.getDeclaredMethods()) {
            if (java.lang.reflect.Modifier.isPublic(m.getModifiers())) {
                CHECKS.tell(readme.contains("| `" + m.getName() + "("), "README.md does not tell of " + m.getName());
            }
        }
        CHECKS.end("ReadmeTest");
    }

    private static void playRun(String readme) throws IllegalAccessException {
        BinRounds town = new BinRounds();
        int played = 0;
        for (String line : readme.split("\n")) {
            if (!line.startsWith("town.")) {
                continue;
            }
            Matcher call = CALL.matcher(line);
            CHECKS.tell(call.matches(), "this line of README.md can't be read: " + line);
            if (call.matches()) {
                play(town, line, call);
                played++;
            }
        }
        CHECKS.tell(played > 0, "README.md has no run of calls");
    }

    /** Behind the call stands its answer, alone or before a colon; of a call without an answer any words. */
    private static void play(BinRounds town, String line, Matcher call) throws IllegalAccessException {
        Method m = named(call.group(1));
        if (m == null) {
            CHECKS.tell(false, "there is no such call: " + line);
            return;
        }
        String want = call.group(3).split(":")[0];
        String got;
        try {
            Object answer = m.invoke(town, arguments(m, call.group(2)));
            got = m.getReturnType() == void.class ? want : String.valueOf(answer);
        } catch (InvocationTargetException e) {
            got = "throws " + e.getCause().getClass().getSimpleName();
        }
        CHECKS.tell(got.equals(want), line + ": the answer is " + got);
    }

    private static Method named(String name) {
        for (Method m : BinRounds.class.getDeclaredMethods()) {
            if (m.getName().equals(name) && java.lang.reflect.Modifier.isPublic(m.getModifiers())) {
                return m;
            }
        }
        return null;
    }

    private static Object[] arguments(Method m, String told) {
        String[] words = told.isEmpty() ? new String[0] : told.split(", ");
        Class<?>[] types = m.getParameterTypes();
        Object[] all = new Object[words.length];
        for (int i = 0; i < words.length; i++) {
            if (types[i] == boolean.class) {
                all[i] = Boolean.valueOf(words[i]);
            } else if (types[i] == long.class) {
                all[i] = Long.valueOf(words[i]);
            } else {
                all[i] = Integer.valueOf(words[i]);
            }
        }
        return all;
    }
}
