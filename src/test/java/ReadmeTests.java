import java.io.File;
import java.io.IOException;
import java.lang.reflect.Method;
import java.lang.reflect.Modifier;
import java.nio.charset.StandardCharsets;
import java.nio.file.Files;
import java.nio.file.Path;
import java.nio.file.Paths;
import java.nio.file.attribute.PosixFilePermission;
import java.util.ArrayList;
import java.util.Comparator;
import java.util.List;
import java.util.regex.Matcher;
import java.util.regex.Pattern;
import java.util.stream.Collectors;
import java.util.stream.Stream;

/** README.md's way to use the class and to run its tests works as it is written there, in a copy of the project. */
public final class ReadmeTests {
    private static final String CI = ".ci/run\n";

    private ReadmeTests() { }

    public static void main(String[] args) throws Exception {
        String source = args.length > 0 ? args[0] : "src/main/java/SandwichTreaty.java";
        Path root = Paths.get(source).toAbsolutePath().resolve("../../../..").normalize();
        String readme = Files.readString(root.resolve("README.md"));
        calls(readme);
        tests(root, readme);
        Path copy = Files.createTempDirectory("readme");
        try {
            copyTree(root.resolve("src"), copy.resolve("src"));
            blocks(root, copy, readme);
        } finally {
            removeTree(copy);
        }
        Check.finish("ReadmeTests");
    }

    private static void holds(String what, boolean is) {
        Check.due(what, true, is);
    }

    /** Every call of the face is named, and no call that is not. */
    private static void calls(String readme) {
        List<String> named = new ArrayList<>();
        for (String line : readme.split("\n")) {
            Matcher row = Pattern.compile("^\\| [a-z ,`]+ \\| (.*) \\|$").matcher(line);
            if (row.find()) {
                named.addAll(found(row.group(1), "`([a-z]+)`"));
            }
        }
        List<String> face = new ArrayList<>();
        for (Method method : SandwichTreaty.class.getDeclaredMethods()) {
            if (Modifier.isPublic(method.getModifiers())) {
                face.add(method.getName());
            }
        }
        named.sort(null);
        face.sort(null);
        holds("README.md names " + named + ", the face has " + face, named.equals(face));
    }

    /** Every test of the project is named, and no test that is not there. */
    private static void tests(Path root, String readme) throws IOException {
        List<String> there;
        try (Stream<Path> files = Files.list(root.resolve("src/test/java"))) {
            there = files.map(file -> file.getFileName().toString().replace(".java", ""))
                .filter(name -> name.endsWith("Tests")).sorted().collect(Collectors.toList());
        }
        List<String> named = found(readme, "`([A-Z][A-Za-z]+Tests)`").stream().distinct().sorted()
            .collect(Collectors.toList());
        holds("README.md names " + named + ", there are " + there, named.equals(there));
    }

    private static void blocks(Path root, Path copy, String readme) throws Exception {
        List<String> programs = found(readme, "```java\n(.*?)```");
        List<String> texts = found(readme, "```text\n(.*?)```");
        List<String> commands = found(readme, "```sh\n(.*?)```");
        Check.due("programs", 1, programs.size());
        Check.due("printed texts", 1, texts.size());
        Check.due("commands", 3, commands.size());
        if (programs.size() != 1 || texts.size() != 1 || commands.size() != 3) {
            return;
        }
        Files.writeString(copy.resolve("Example.java"), programs.get(0));
        String printed = output(copy, commands.get(0));
        holds("the example prints\n" + printed, printed.equals(texts.get(0)));
        // Not run from here, as it is what runs this test.
        holds("the tests are run by " + commands.get(1), commands.get(1).equals(CI));
        holds(CI + " can be run", Files.getPosixFilePermissions(root.resolve(CI.trim()))
            .contains(PosixFilePermission.OWNER_EXECUTE));
        String answers = output(copy, commands.get(2));
        holds("a test by itself prints\n" + answers, answers.matches("TableTests: [0-9]+ answers, 0 wrong\n"));
    }

    private static List<String> found(String text, String pattern) {
        List<String> all = new ArrayList<>();
        Matcher matcher = Pattern.compile(pattern, Pattern.DOTALL).matcher(text);
        while (matcher.find()) {
            all.add(matcher.group(1));
        }
        return all;
    }

    private static String output(Path directory, String commands) throws Exception {
        File printed = directory.resolve("printed").toFile();
        Process shell = new ProcessBuilder("sh", "-e", "-c", commands).directory(directory.toFile())
            .redirectErrorStream(true).redirectOutput(printed).start();
        Check.due("exit code of " + commands, 0, shell.waitFor());
        return new String(Files.readAllBytes(printed.toPath()), StandardCharsets.UTF_8);
    }

    private static void copyTree(Path from, Path to) throws IOException {
        try (Stream<Path> files = Files.walk(from)) {
            for (Path file : files.collect(Collectors.toList())) {
                Files.copy(file, to.resolve(from.relativize(file).toString()));
            }
        }
    }

    private static void removeTree(Path top) throws IOException {
        try (Stream<Path> files = Files.walk(top)) {
            for (Path file : files.sorted(Comparator.reverseOrder()).collect(Collectors.toList())) {
                Files.delete(file);
            }
        }
    }
}
