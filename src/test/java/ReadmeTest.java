import java.io.File;
import java.io.IOException;
import java.lang.reflect.Method;
import java.lang.reflect.Modifier;
import java.nio.charset.StandardCharsets;
import java.nio.file.Files;
import java.nio.file.Path;
import java.util.ArrayList;
import java.util.List;
import java.util.TreeMap;
import java.util.regex.Matcher;
import java.util.regex.Pattern;

/** README.md tells what is true: its program runs as it says, and it has all calls with what they throw. */
public final class ReadmeTest {
    private static final Check CHECK = new Check("ReadmeTest");
    private static final Path SOURCE = Path.of("src/main/java/Repeatroll.java");

    private ReadmeTest() {
    }

    public static void main(String[] args) throws IOException, InterruptedException {
        String page = Files.readString(Path.of("README.md"));
        program(page);
        callsOfTheFace(page);
        typesOfAnswers(page);
        everyTestIsNamed(page);
        for (String needed : List.of("new Repeatroll()", "at most 512 calls", "changes nothing", "bash .ci/run", "bash .ci/run alone")) {
            CHECK.due("the page has " + needed, page.contains(needed), true);
        }
        CHECK.end();
    }

    private static List<String> blocks(String page, String language) {
        List<String> blocks = new ArrayList<>();
        Matcher block = Pattern.compile("```" + language + "\n(.*?)```", Pattern.DOTALL).matcher(page);
        while (block.find()) {
            blocks.add(block.group(1));
        }
        return blocks;
    }

    /** The first commands, given as they stand in a folder that has the class and the page's program alone. */
    private static void program(String page) throws IOException, InterruptedException {
        Path folder = Files.createTempDirectory("readme");
        Files.createDirectories(folder.resolve(SOURCE).getParent());
        Files.copy(SOURCE, folder.resolve(SOURCE));
        Files.writeString(folder.resolve("FirstRoom.java"), blocks(page, "java").get(0));
        StringBuilder told = new StringBuilder();
        for (String command : blocks(page, "sh").get(0).split("\n")) {
            Process process = new ProcessBuilder(command.split(" ")).directory(folder.toFile()).redirectErrorStream(true).start();
            told.append(new String(process.getInputStream().readAllBytes(), StandardCharsets.UTF_8));
            CHECK.due("exit code of " + command, process.waitFor(), 0);
        }
        CHECK.due("what the program prints", told.toString(), blocks(page, "text").get(0));
        takeAway(folder.toFile());
    }

    private static void takeAway(File file) {
        File[] inside = file.listFiles();
        for (File each : inside == null ? new File[0] : inside) {
            takeAway(each);
        }
        CHECK.due(file + " is taken away", file.delete(), true);
    }

    private static void callsOfTheFace(String page) throws IOException {
        TreeMap<String, String> got = new TreeMap<>();
        Matcher row = Pattern.compile("\\| `(\\w+\\([^`]*\\))` \\|.*\\| ([^|]*) \\|\n").matcher(page);
        while (row.find()) {
            CHECK.due("two rows of " + row.group(1), got.put(row.group(1), namesIn(row.group(2))), null);
        }
        String source = Files.readString(SOURCE);
        TreeMap<String, String> due = new TreeMap<>();
        for (Method method : Repeatroll.class.getDeclaredMethods()) {
            if (Modifier.isPublic(method.getModifiers())) {
                Matcher head = Pattern.compile("    public \\w+ (" + method.getName() + "\\([^)]*\\))").matcher(source);
                CHECK.due("the file has " + method.getName(), head.find(), true);
                due.put(head.group(1), namesIn(List.of(method.getExceptionTypes()).toString()));
            }
        }
        CHECK.due("the calls and what they throw", got, due);
    }

    /** The page tells the types by one sentence, of which the rows must keep to "returns whether". */
    private static void typesOfAnswers(String page) {
        for (Method method : Repeatroll.class.getDeclaredMethods()) {
            if (Modifier.isPublic(method.getModifiers())) {
                String name = method.getName();
                boolean isAsked = Pattern.compile("\\| `" + name + "\\([^`]*` \\|[^|]*returns whether").matcher(page).find();
                String type = isAsked ? "boolean" : "int";
                Matcher told = Pattern.compile("`" + name + "`( returns)? an? `(\\w+)`").matcher(page.replace('\n', ' '));
                CHECK.due("the type of " + name, told.find() ? told.group(2) : type, method.getReturnType().toString());
            }
        }
    }

    private static String namesIn(String text) {
        List<String> names = new ArrayList<>();
        Matcher name = Pattern.compile("\\w+Exception").matcher(text);
        while (name.find()) {
            names.add(name.group());
        }
        return names.isEmpty() && !text.equals("nothing") && !text.equals("[]") ? text : names.toString();
    }

    private static void everyTestIsNamed(String page) throws IOException {
        try (var tests = Files.newDirectoryStream(Path.of("src/test/java"), "*Test.java")) {
            for (Path test : tests) {
                String name = test.getFileName().toString().replace(".java", "");
                CHECK.due("the page has " + name, page.contains("| `" + name + "` |"), true);
            }
        }
    }
}
