import java.io.IOException;
import java.lang.reflect.Method;
import java.lang.reflect.Modifier;
import java.nio.file.Files;
import java.nio.file.Path;
import java.util.ArrayList;
import java.util.Comparator;
import java.util.List;
import java.util.TreeSet;
import java.util.regex.Matcher;
import java.util.regex.Pattern;
import java.util.stream.Stream;

/**
 * What README.md shows holds as it is written there: its program is compiled and run by its own commands and prints
 * what README.md says, its list of calls is the face, and its list of tests is what stands in src/test/java. It is run
 * in the project's directory, and works in a copy of the sources.
 */
public final class TextureBankReadme {
    private static final Path PROJECT = Path.of("").toAbsolutePath();
    private static int wrong = 0;

    public static void main(String[] args) throws IOException, InterruptedException {
        String readme = Files.readString(PROJECT.resolve("README.md"));
        Path copy = Files.createTempDirectory("readme");
        try {
            copyTree(PROJECT.resolve("src"), copy.resolve("src"));
            blocksHold(blocksOf(readme), copy);
        } finally {
            delete(copy);
        }
        theCallsAreTheFace(readme);
        theTestsAreThoseThatThereAre(readme);
        System.out.println(wrong == 0 ? "README.md holds" : wrong + " things in README.md do not hold");
        if (wrong != 0) {
            System.exit(1);
        }
    }

    /** A block's kind and its text. */
    private static List<String[]> blocksOf(String readme) {
        List<String[]> blocks = new ArrayList<>();
        Matcher m = Pattern.compile("(?ms)^```(\\w+)\n(.*?)^```$").matcher(readme);
        while (m.find()) {
            blocks.add(new String[] {m.group(1), m.group(2)});
        }
        return blocks;
    }

    /** A program is put beside the sources under its class's name; commands are run, and print the text behind them. */
    private static void blocksHold(List<String[]> blocks, Path copy) throws IOException, InterruptedException {
        List<String> kinds = new ArrayList<>();
        for (int n = 0; n < blocks.size(); n++) {
            String kind = blocks.get(n)[0];
            String text = blocks.get(n)[1];
            kinds.add(kind);
            if (kind.equals("java")) {
                Files.writeString(copy.resolve(programName(text) + ".java"), text);
            } else if (kind.equals("sh") && text.equals(".ci/run\n")) {
                // It runs this test itself, so it can't be run from here.
                due(".ci/run can be run", Files.isExecutable(PROJECT.resolve(".ci/run")), true);
            } else if (kind.equals("sh")) {
                due(text, printed(text, copy), blocks.get(n + 1)[1]);
            }
        }
        due("the blocks", kinds, List.of("java", "sh", "text", "sh", "sh", "text"));
    }

    private static String programName(String program) {
        Matcher m = Pattern.compile("public final class (\\w+)").matcher(program);
        return m.find() ? m.group(1) : "Unnamed";
    }

    private static String printed(String commands, Path directory) throws IOException, InterruptedException {
        ProcessBuilder shell = new ProcessBuilder("sh", "-e", "-c", commands);
        shell.directory(directory.toFile());
        shell.redirectErrorStream(true);
        // Machines that set these have java print a line of its own about them.
        shell.environment().remove("JAVA_TOOL_OPTIONS");
        shell.environment().remove("JDK_JAVA_OPTIONS");
        Process run = shell.start();
        String out = new String(run.getInputStream().readAllBytes());
        int code = run.waitFor();
        return code == 0 ? out : out + "exit code " + code;
    }

    private static void theCallsAreTheFace(String readme) {
        TreeSet<String> face = new TreeSet<>();
        for (Method m : TextureBank.class.getDeclaredMethods()) {
            if (Modifier.isPublic(m.getModifiers())) {
                face.add(m.getName() + " of " + m.getParameterCount());
            }
        }
        TreeSet<String> told = new TreeSet<>();
        Matcher m = Pattern.compile("(?m)^- `(\\w+)\\(([^)]*)\\)`").matcher(readme);
        while (m.find()) {
            told.add(m.group(1) + " of " + (m.group(2).isEmpty() ? 0 : m.group(2).split(",").length));
        }
        due("the calls", told, face);
    }

    private static void theTestsAreThoseThatThereAre(String readme) throws IOException {
        TreeSet<String> files = new TreeSet<>();
        try (Stream<Path> tests = Files.list(PROJECT.resolve("src/test/java"))) {
            tests.forEach(file -> files.add(file.getFileName().toString()));
        }
        TreeSet<String> told = new TreeSet<>();
        Matcher m = Pattern.compile("(?m)^- `(\\w+)`:").matcher(readme);
        while (m.find()) {
            told.add(m.group(1) + ".java");
        }
        due("the tests", told, files);
    }

    private static void copyTree(Path from, Path to) throws IOException {
        for (Path file : treeOf(from)) {
            Files.copy(file, to.resolve(from.relativize(file).toString()));
        }
    }

    private static void delete(Path directory) throws IOException {
        List<Path> all = treeOf(directory);
        all.sort(Comparator.reverseOrder());
        for (Path file : all) {
            Files.delete(file);
        }
    }

    private static List<Path> treeOf(Path directory) throws IOException {
        try (Stream<Path> all = Files.walk(directory)) {
            return new ArrayList<>(all.toList());
        }
    }

    private static void due(String what, Object got, Object want) {
        if (!got.equals(want)) {
            wrong++;
            System.out.println("README.md, " + what + ": found " + got + ", due is " + want);
        }
    }
}
