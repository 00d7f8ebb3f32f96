import java.io.ByteArrayOutputStream;
import java.io.File;
import java.io.IOException;
import java.io.PrintStream;
import java.nio.file.Files;
import java.nio.file.Path;
import java.util.regex.Matcher;
import java.util.regex.Pattern;

/** README.md tells what is so: its program is Example and prints that, no call and no test is left out. */
public final class ReadmeTest extends Checks {
    private static String textOfFile(String path) throws IOException {
        return Files.readString(Path.of(path)).strip();
    }

    private static String block(String language, String text) {
        return "```" + language + "\n" + text + "\n```";
    }

    private static String printedByExample() {
        PrintStream screen = System.out;
        ByteArrayOutputStream printed = new ByteArrayOutputStream();
        System.setOut(new PrintStream(printed, true));
        Example.main(new String[0]);
        System.setOut(screen);
        return printed.toString().replace(System.lineSeparator(), "\n").strip();
    }

    private static void tells(String readme, String what) {
        due("README tells (1) " + what, readme.contains(what) ? 1 : 0, 1);
    }

    private static void calls(String readme) throws IOException {
        Matcher m = Pattern.compile("(?m)^ +public int (\\w+)\\((.*)\\);$").matcher(textOfFile("../shared/DOC.md"));
        while (m.find()) {
            tells(readme, "`" + m.group(1) + "(" + m.group(2).replaceAll("(int|long) ", "") + ")`");
        }
    }

    private static void tests(String readme) {
        File[] files = new File("src/test/java").listFiles((dir, name) -> name.endsWith("Test.java"));
        due("there are tests (1)", files != null && files.length > 0 ? 1 : 0, 1);
        for (File file : files) {
            tells(readme, "`" + file.getName().replace(".java", "") + "`");
        }
        Matcher m = Pattern.compile("`(\\w+Test)`").matcher(readme);
        while (m.find()) {
            due(m.group(1) + " is there (1)", new File("src/test/java", m.group(1) + ".java").exists() ? 1 : 0, 1);
        }
    }

    private static void errors(String readme) {
        int[] errors = {BEYOND, NONE, STATE, FULL, KIND};
        String[] names = {"BEYOND", "NONE", "STATE", "FULL", "KIND"};
        for (int k = 1; k <= 5; k++) {
            tells(readme, "| " + names[k - 1] + " | " + errors[k - 1] + " | `told(" + k + ")` |");
        }
    }

    public static void main(String[] args) throws IOException {
        part = "README.md";
        String readme = textOfFile("README.md");
        tells(readme, block("java", textOfFile("src/test/java/Example.java")));
        tells(readme, block("text", printedByExample()));
        calls(readme);
        tests(readme);
        errors(readme);
        end();
    }
}
