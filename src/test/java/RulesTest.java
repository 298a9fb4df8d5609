import java.io.IOException;
import java.lang.reflect.Constructor;
import java.lang.reflect.Field;
import java.lang.reflect.Method;
import java.lang.reflect.Modifier;
import java.nio.file.DirectoryStream;
import java.nio.file.Files;
import java.nio.file.Path;
import java.util.ArrayList;
import java.util.List;
import java.util.Set;
import java.util.TreeSet;
import java.util.regex.Matcher;
import java.util.regex.Pattern;

/** The face as the document has it, and what LANGUAGE.md keeps out of the file. */
public final class RulesTest {
    private static final String[] KEPT_OUT = {
        "->", "::", "finally", "catch", "synchronized", "assert ", "Exact(", "Float.", "Double.", "extends ", "\" +", "+ \"",
        "protected ", "System.out", "System.nano", "System.current", "Random", "Thread", "equals(", "hashCode", "toString", ".*;", "static {"
    };
    private static final Check CHECK = new Check("RulesTest");

    private RulesTest() {
    }

    public static void main(String[] args) throws IOException {
        if (!Document.IS_LEFT_OUT) {
            face();
            faceToTheLetter();
            everyHeadingIsOpened();
        }
        noOtherMembers();
        keptOut();
        methodsAreShort();
        CHECK.end();
    }

    private static void face() {
        TreeSet<String> due = new TreeSet<>();
        for (String part : new Document().face().replaceFirst(".*\\{", "").split(";")) {
            String member = part.strip();
            if (member.startsWith("public ")) {
                due.add(member.replaceAll("(int|char|boolean) \\w+(?=[,)])", "$1").replace(", ", ","));
            }
        }
        TreeSet<String> got = new TreeSet<>();
        for (Method method : Repeatroll.class.getDeclaredMethods()) {
            if (!Modifier.isPrivate(method.getModifiers())) {
                got.add(shortened(method.toString()));
            }
        }
        for (Constructor<?> constructor : Repeatroll.class.getDeclaredConstructors()) {
            got.add(shortened(constructor.toString()));
        }
        CHECK.due("the face", got, due);
        CHECK.due("how many members", got.size(), 53);
        CHECK.due("the class", Modifier.toString(Repeatroll.class.getModifiers()), "public final");
    }

    /** The names of parameters do not stand in the class, but in its file. */
    private static void faceToTheLetter() throws IOException {
        String source = Files.readString(Path.of("src/main/java/Repeatroll.java"));
        int members = 0;
        for (String part : new Document().face().replaceFirst(".*?\\{", "").split(";")) {
            if (part.strip().startsWith("public ")) {
                CHECK.due("the file has " + part.strip(), source.contains("\n    " + part.strip() + " {\n"), true);
                members++;
            }
        }
        CHECK.due("how many members the document has", members, 53);
        CHECK.due("how many public ones the file has", source.split("\\bpublic ", -1).length - 1, 54);
        CHECK.due("the file imports what the face does", source.contains("\nimport java.util.NoSuchElementException;\n"), true);
    }

    private static String shortened(String member) {
        return member.replaceAll("java\\.(lang|util)\\.", "").replace("Repeatroll.", "").replace(", ", ",");
    }

    private static void noOtherMembers() {
        TreeSet<String> publicNames = new TreeSet<>();
        for (Method method : Repeatroll.class.getMethods()) {
            publicNames.add(method.getName());
        }
        List<Class<?>> classes = new ArrayList<>(List.of(Repeatroll.class.getDeclaredClasses()));
        CHECK.due("some twelve classes", classes.size() <= 12, true);
        for (Class<?> inside : classes) {
            int hidden = Modifier.PRIVATE | Modifier.STATIC;
            CHECK.due(inside + " is private and static", inside.getModifiers() & hidden, hidden);
        }
        classes.add(Repeatroll.class);
        for (Class<?> each : classes) {
            int fields = 0;
            for (Field field : each.getDeclaredFields()) {
                CHECK.due(field + " is private", Modifier.isPrivate(field.getModifiers()), true);
                fields += Modifier.isStatic(field.getModifiers()) ? 0 : 1;
                boolean isFinal = !Modifier.isStatic(field.getModifiers()) || Modifier.isFinal(field.getModifiers());
                CHECK.due(field + " is final, if it is static", isFinal, true);
            }
            CHECK.due("some twenty fields of " + each, fields <= 20, true);
            for (Method method : each.getDeclaredMethods()) {
                boolean isHidden = Modifier.isPrivate(method.getModifiers());
                CHECK.due(method + " has no name of the face", isHidden && publicNames.contains(method.getName()), false);
                CHECK.due(method + " has few parameters", method.getParameterCount() <= 7, true);
            }
        }
    }

    private static void keptOut() throws IOException {
        String source = Files.readString(Path.of("src/main/java/Repeatroll.java"));
        for (String token : KEPT_OUT) {
            CHECK.due("'" + token + "' is in the file", source.contains(token), false);
        }
        CHECK.due("signs above 126", source.chars().anyMatch(sign -> sign > 126), false);
        for (String line : source.split("\n")) {
            boolean isOther = line.startsWith("import ") && !line.matches("import java\\.util\\.(ArrayList|Arrays|NoSuchElementException);");
            CHECK.due("another import: " + line, isOther, false);
        }
    }

    private static void methodsAreShort() throws IOException {
        String end = "";
        int lines = 0;
        for (String line : Files.readAllLines(Path.of("src/main/java/Repeatroll.java"))) {
            lines++;
            if (line.matches(" {4,8}(public|private) .*\\).*\\{")) {
                end = line.substring(0, line.length() - line.stripLeading().length()) + "}";
                lines = 1;
            }
            if (line.equals(end)) {
                CHECK.due("a method ends within sixty lines", lines <= 60, true);
                end = "";
            }
        }
    }

    /** A test for each promise and for each part of the terms opens it, and fails if one of its sentences is not quoted. */
    private static void everyHeadingIsOpened() throws IOException {
        TreeSet<String> opened = new TreeSet<>();
        try (DirectoryStream<Path> tests = Files.newDirectoryStream(Path.of("src/test/java"), "*Test.java")) {
            for (Path test : tests) {
                Matcher opens = Pattern.compile("BOOK\\.open\\(\"([^\"]+)\"\\)").matcher(Files.readString(test));
                while (opens.find()) {
                    opened.add(opens.group(1));
                }
            }
        }
        TreeSet<String> headings = new TreeSet<>(new Document().headings());
        headings.removeAll(Set.of("", "The public face", "Not promised"));
        CHECK.due("headings that a test opens", opened, headings);
    }
}
