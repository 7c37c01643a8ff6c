import java.io.IOException;
import java.lang.reflect.Method;
import java.lang.reflect.Modifier;
import java.nio.file.Files;
import java.nio.file.Path;
import java.util.regex.Matcher;
import java.util.regex.Pattern;

/** README.md tells of every call, with as many numbers as it takes, and what its example shows is so. */
public final class ReadmeTest {
    private static String readme;

    private ReadmeTest() {
    }

    public static void main(String[] args) throws IOException {
        readme = Files.readString(Path.of("README.md"));
        callsAreTold();
        example();
        textThatIsShown();
        refusals();
        tests();
        Check.end();
    }

    private static void callsAreTold() {
        for (Method method : TurningDishes.class.getDeclaredMethods()) {
            if (Modifier.isPublic(method.getModifiers())) {
                Matcher told = Pattern.compile("\\| `" + method.getName() + "\\(([^)]*)\\)` \\|").matcher(readme);
                boolean found = told.find();
                Check.holds("README.md tells of " + method.getName(), found);
                String numbers = found ? told.group(1) : "";
                Check.due("numbers that README.md tells of " + method.getName(),
                        numbers.isEmpty() ? 0 : numbers.split(",").length, method.getParameterCount());
            }
        }
    }

    private static void shows(String line, int answer, String told) {
        Check.holds("README.md shows " + line, Pattern.compile(Pattern.quote(line) + " +// "
                + answer + Pattern.quote(told)).matcher(readme).find());
    }

    private static void example() {
        TurningDishes x = new TurningDishes();
        String[] words = {"guest", " fast", " 0;", "dish 3;"};
        for (String word : words) {
            x.feed(Texts.word(word, 0, word.length()), word.length());
            String line = "x.feed(0x" + Long.toHexString(Texts.word(word, 0, word.length())) + "L, " + word.length() + ");";
            Check.holds("README.md shows " + line, Pattern.compile(Pattern.quote(line) + " +// " + '"'
                    + Pattern.quote(word) + '"').matcher(readme).find());
        }
        shows("int guests = x.table();", x.table(), ";");
        shows("int turn = x.minutes(2);", x.minutes(2), ":");
        shows("int eaten = x.guest(0, 2);", x.guest(0, 2), ":");
        shows("int left = x.undo();", x.undo(), ":");
    }

    private static void textThatIsShown() {
        String text = "guest eater 0; guest drunk 2; dish 5; dish 0;";
        Check.holds("README.md shows " + text, readme.contains("`" + text + "`"));
        Check.due("guests of " + text, Texts.read(text), 2);
    }

    private static void refusals() {
        String[] told = {"| " + TurningDishes.NONE + " | `NONE`", "| " + TurningDishes.BAD + " | `BAD`",
            "| " + TurningDishes.STATE + " | `STATE`", "| " + TurningDishes.FULL + " | `FULL`",
            "| " + Due.NULL + " to " + Due.STORE + " |"};
        for (String row : told) {
            Check.holds("README.md tells " + row, readme.contains(row));
        }
    }

    /** Each test of the project is told of. */
    private static void tests() throws IOException {
        try (var files = Files.list(Path.of("src/test/java"))) {
            for (Path file : files.filter(f -> f.toString().endsWith("Test.java")).toList()) {
                String name = file.getFileName().toString().replace(".java", "");
                Check.holds("README.md tells of " + name, readme.contains("`" + name + "`"));
            }
        }
    }
}
