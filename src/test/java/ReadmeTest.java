import java.io.ByteArrayOutputStream;
import java.io.IOException;
import java.io.PrintStream;
import java.net.URL;
import java.net.URLClassLoader;
import java.nio.file.Files;
import java.nio.file.Path;
import java.util.ArrayList;
import java.util.List;
import java.util.regex.Matcher;
import java.util.regex.Pattern;
import javax.tools.ToolProvider;

/** README.md: its examples compile as they stand there, and answer what it says; its files and commands are there. */
public final class ReadmeTest {
    private static final Path README = Path.of("README.md");
    private static final Pattern BLOCK = Pattern.compile("```(\\w+)\n(.*?)```", Pattern.DOTALL);
    private static final Pattern CLASS = Pattern.compile("public final class (\\w+) \\{");
    private static final Pattern SAID = Pattern.compile(" *say\\(sheet\\.\\w+\\(.*\\)\\); +// (-?\\d+)\\b.*");
    private static final String NAMES = "type enter clear formula undo redo needs stale worked ask steps down top told "
        + "number print out";

    private static List<String> blocks(String text, String language) {
        List<String> all = new ArrayList<>();
        Matcher block = BLOCK.matcher(text);
        while (block.find()) {
            if (block.group(1).equals(language)) {
                all.add(block.group(2));
            }
        }
        return all;
    }

    /** What the main method of a class in this directory prints. */
    private static String printed(Path room, String name) throws IOException, ReflectiveOperationException {
        PrintStream before = System.out;
        ByteArrayOutputStream paper = new ByteArrayOutputStream();
        try (URLClassLoader loader = new URLClassLoader(new URL[] {room.toUri().toURL()})) {
            System.setOut(new PrintStream(paper, true));
            loader.loadClass(name).getMethod("main", String[].class).invoke(null, (Object) new String[0]);
        } finally {
            System.setOut(before);
        }
        return paper.toString();
    }

    /** The lines that an example prints, compiled as it stands in README.md. */
    private static String[] answers(String name, String example) throws IOException, ReflectiveOperationException {
        Path room = Files.createTempDirectory("readme");
        Path file = room.resolve(name + ".java");
        try {
            Files.writeString(file, example);
            int failed = ToolProvider.getSystemJavaCompiler().run(null, null, null, "-d", room.toString(), "-cp",
                System.getProperty("java.class.path"), file.toString());
            Due.is("compiling " + name + " of README.md", failed, 0);
            return failed == 0 ? printed(room, name).split("\\R") : new String[0];
        } finally {
            Files.deleteIfExists(room.resolve(name + ".class"));
            Files.deleteIfExists(file);
            Files.deleteIfExists(room);
        }
    }

    private static void example(String text) throws IOException, ReflectiveOperationException {
        Matcher name = CLASS.matcher(text);
        Due.is("a class in an example of README.md", name.find() ? 1 : 0, 1);
        String[] got = answers(name.group(1), text);
        int at = 0;
        for (String line : text.split("\n")) {
            Matcher said = SAID.matcher(line);
            if (said.matches()) {
                Due.is("README.md: " + line.trim(), at < got.length ? got[at] : "missing", said.group(1));
                at++;
            } else if (line.contains("say(sheet.")) {
                Due.is("README.md: what is said to be answered by " + line.trim(), "nothing", "a number");
            }
        }
        Due.is("as many as are said", got.length, at);
    }

    private static void examples(String text) throws IOException, ReflectiveOperationException {
        List<String> all = blocks(text, "java");
        for (String each : all) {
            example(each);
        }
        String together = String.join("", all);
        for (String name : NAMES.split(" ")) {
            Due.is("an example of " + name, together.contains("say(sheet." + name + "(") ? 1 : 0, 1);
        }
    }

    private static void refusals(String text) {
        String[] told = {"\n| -1 | `BAD` |", "\n| -2 | `STATE` |", "\n| -3 | `FULL` |", "\n-5, `NONE`, is no refusal"};
        String[] examples = {"// -1: BAD,", "// -2: STATE,", "// -3: FULL,", "// -5: NONE,"};
        int[] constants = {NestSheet.BAD, NestSheet.STATE, NestSheet.FULL, NestSheet.NONE};
        for (int i = 0; i < told.length; i++) {
            Due.is("README.md has" + told[i].trim(), text.contains(told[i]) ? 1 : 0, 1);
            Due.is("README.md has an example of it", text.contains(examples[i]) ? 1 : 0, 1);
            Due.is("the number of" + told[i].trim(), told[i].replaceAll("[^-0-9]", ""), "" + constants[i]);
        }
    }

    private static void files(String text) {
        for (String name : new String[] {"src/main/java/NestSheet.java", "NOTES.md", "../shared/DOC.md"}) {
            Due.is("README.md names " + name, text.contains("`" + name + "`") ? 1 : 0, 1);
            Due.is("there is " + name, Files.exists(Path.of(name)) ? 1 : 0, 1);
        }
        List<String> commands = blocks(text, "sh");
        Due.is("how to run the tests", commands.isEmpty() ? "" : commands.get(0).trim(), ".ci/run");
        Due.is("that it can be run", Files.isExecutable(Path.of(".ci/run")) ? 1 : 0, 1);
    }

    public static void main(String[] args) throws IOException, ReflectiveOperationException {
        String text = Files.readString(README);
        examples(text);
        refusals(text);
        files(text);
        Due.end("ReadmeTest");
    }
}
