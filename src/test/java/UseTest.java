import java.nio.file.Files;
import java.nio.file.Path;
import java.util.ArrayList;
import java.util.Arrays;
import java.util.List;
import java.util.regex.Matcher;
import java.util.regex.Pattern;

/** The example of README.md: each of its calls, with the answer that stands behind it there. */
public final class UseTest {
    private static final Pattern LINE =
            Pattern.compile("sieve\\.(\\w+)\\((.*)\\);\\s*// (true|false|-?\\d+)(:.*)?");

    private UseTest() {
    }

    public static void main(String[] args) throws Exception {
        LetterSieve sieve = new LetterSieve();
        int calls = 0;
        for (String line : example()) {
            Matcher told = LINE.matcher(line);
            boolean isCall = told.matches();
            Checks.due("'" + line + "' is a call with its answer", isCall, true);
            if (isCall) {
                Object got = call(sieve, told.group(1), numbers(told.group(2)));
                Checks.due("'" + line + "': " + got, told.group(3).equals(got.toString()), true);
                calls++;
            }
        }
        Checks.due("there are calls", calls > 0, true);
        Checks.finish("UseTest");
    }

    /** The lines of README.md's Java, behind the one that makes the object. */
    private static List<String> example() throws Exception {
        String readme = Files.readString(Path.of("README.md"));
        String java = readme.split("```java\\n")[1].split("```")[0];
        List<String> lines = new ArrayList<>(List.of(java.split("\\n")));
        Checks.due("the object is made first",
                lines.remove(0).equals("LetterSieve sieve = new LetterSieve();"), true);
        return lines;
    }

    private static Object[] numbers(String told) {
        List<Object> numbers = new ArrayList<>();
        for (String number : told.isEmpty() ? new String[0] : told.split(", ")) {
            if (number.equals("LetterSieve.NONE")) {
                numbers.add(LetterSieve.NONE);
            } else if (number.startsWith("0b")) {
                numbers.add(Integer.parseInt(number.substring(2), 2));
            } else {
                numbers.add(Integer.decode(number));
            }
        }
        return numbers.toArray();
    }

    private static Object call(LetterSieve sieve, String name, Object[] numbers) throws Exception {
        Class<?>[] types = new Class<?>[numbers.length];
        Arrays.fill(types, int.class);
        return LetterSieve.class.getMethod(name, types).invoke(sieve, numbers);
    }
}
