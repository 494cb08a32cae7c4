import java.io.IOException;
import java.lang.reflect.Method;
import java.lang.reflect.Modifier;
import java.nio.file.Files;
import java.nio.file.Path;
import java.util.regex.Matcher;
import java.util.regex.Pattern;

/** README.md's calls, one run from its first line to its last, each with the answer that stands beside it. */
public final class ReadmeTest {
    private static final Pattern LETTERS = Pattern.compile("for \\(char c : \"([^\"]*)\"\\.toCharArray\\(\\)\\) \\{");
    private static final Pattern CALL = Pattern.compile("x\\.([a-z]+)\\(([-0-9, ]*)\\);\\s*// (-?\\d+):.*");
    private static final Pattern NO_CALL = Pattern.compile("GrudgeRennet x = new GrudgeRennet\\(\\);|x\\.letter\\(c\\);|\\}|");

    private final GrudgeRennet x = new GrudgeRennet();
    private int asked;
    private int wrong;

    public static void main(String[] args) throws IOException {
        String page = Files.readString(Path.of("README.md"));
        ReadmeTest test = new ReadmeTest();
        Matcher block = Pattern.compile("(?s)```java\n(.*?)```").matcher(page);
        while (block.find()) {
            for (String line : block.group(1).split("\n")) {
                test.go(line.trim());
            }
        }
        test.holds(test.asked > 30, "the calls of README.md were not found");
        for (Method m : GrudgeRennet.class.getDeclaredMethods()) {
            boolean named = page.contains("`" + m.getName() + "`");
            test.holds(!Modifier.isPublic(m.getModifiers()) || named, "README.md does not name " + m.getName());
        }
        System.out.println("ReadmeTest: " + test.asked + " answers, " + test.wrong + " not as due");
        if (test.wrong != 0) {
            System.exit(1);
        }
    }

    private void go(String line) {
        Matcher letters = LETTERS.matcher(line);
        Matcher call = CALL.matcher(line);
        if (letters.matches()) {
            Due.write(x, letters.group(1));
        } else if (call.matches()) {
            long got = Calls.make(x, call.group(1), numbers(call.group(2)));
            holds(got == Long.parseLong(call.group(3)), line + " answered " + got);
        } else {
            holds(NO_CALL.matcher(line).matches(), "a line that is not understood: " + line);
        }
    }

    private static int[] numbers(String text) {
        String[] parts = text.isEmpty() ? new String[0] : text.split(", ");
        int[] all = new int[parts.length];
        for (int i = 0; i < all.length; i++) {
            all[i] = Integer.parseInt(parts[i]);
        }
        return all;
    }

    private void holds(boolean is, String otherwise) {
        asked++;
        if (!is) {
            wrong++;
            System.out.println(otherwise);
        }
    }
}
