import java.io.File;
import java.io.IOException;
import java.lang.reflect.Method;
import java.lang.reflect.Modifier;
import java.net.URL;
import java.net.URLClassLoader;
import java.nio.charset.StandardCharsets;
import java.nio.file.Files;
import java.nio.file.Path;
import java.util.ArrayList;
import java.util.List;
import java.util.regex.Matcher;
import java.util.regex.Pattern;

/** The Java of README.md is compiled as one program and run: each call answers as README.md says. */
public final class ReadmeTest {
    private static final Path README = Path.of("README.md");
    private static final Pattern ANSWERED =
        Pattern.compile("(\\w+\\.(\\w+)\\(.*\\));\\s*// (-?\\d+|true|false|throws \\w+)(: .*)?");
    private static final Pattern UNANSWERED =
        Pattern.compile("put\\(\\w+, \"[^\"]*\"\\);|ArmchairHouse \\w+ = new ArmchairHouse\\(\\);|");

    private static int wrong = 0;
    private static int checks = 0;

    private static void say(String what) {
        wrong++;
        System.out.println("README.md: " + what);
    }

    /** The program that README.md makes asks for this. */
    public static void due(String call, String got, String want) {
        checks++;
        if (!got.equals(want)) {
            say(call + " answers " + got + ", README.md says " + want);
        }
    }

    public static void main(String[] args) throws Exception {
        String readme = Files.readString(README, StandardCharsets.UTF_8);
        List<String> members = new ArrayList<>();
        List<String> lines = new ArrayList<>();
        Matcher blocks = Pattern.compile("(?s)```java\n(.*?)```").matcher(readme);
        while (blocks.find()) {
            if (blocks.group(1).startsWith("static ")) {
                members.add(blocks.group(1));
            } else {
                lines.addAll(List.of(blocks.group(1).split("\n")));
            }
        }
        names(readme, String.join("\n", lines));
        String program = program(members, lines);
        if (wrong == 0) {
            run(program);
        }
        System.out.println(checks + " calls of README.md, " + wrong + " things are not as due");
        if (wrong != 0 || checks == 0) {
            System.exit(1);
        }
    }

    /** README.md tells of each call of the face, shows it, and names each test. */
    private static void names(String readme, String shown) throws IOException {
        for (Method m : ArmchairHouse.class.getDeclaredMethods()) {
            if (Modifier.isPublic(m.getModifiers())) {
                if (!readme.contains("`" + m.getName() + "`")) {
                    say(m.getName() + " is not told of");
                }
                if (!shown.contains("." + m.getName() + "(")) {
                    say(m.getName() + " is not shown");
                }
            }
        }
        File[] tests = new File("src/test/java").listFiles();
        for (File test : tests == null ? new File[0] : tests) {
            if (!readme.contains("`" + test.getName().replace(".java", "") + "`")) {
                say(test.getName() + " is not told of");
            }
        }
    }

    private static String program(List<String> members, List<String> lines) {
        StringBuilder s = new StringBuilder("public final class ReadmeProgram {\n");
        for (String member : members) {
            s.append(member);
        }
        s.append("public static void main(String[] args) {\n");
        for (String line : lines) {
            Matcher answered = ANSWERED.matcher(line);
            if (answered.matches()) {
                String call = answered.group(1);
                s.append("{ String got; try { got = \"\" + ").append(call);
                s.append("; } catch (RuntimeException e) { got = \"throws \" + e.getClass().getSimpleName(); } ");
                s.append("ReadmeTest.due(\"").append(call.replace("\"", "\\\"")).append("\", got, \"");
                s.append(answered.group(3)).append("\"); }\n");
            } else if (UNANSWERED.matcher(line).matches()) {
                s.append(line).append("\n");
            } else {
                say("a line that tells no answer: " + line);
            }
        }
        return s.append("}\n}\n").toString();
    }

    private static void run(String program) throws Exception {
        Path out = Files.createTempDirectory("readme");
        Path source = out.resolve("ReadmeProgram.java");
        try {
            Files.writeString(source, program);
            Process javac = new ProcessBuilder("javac", "-cp", System.getProperty("java.class.path"), "-d",
                out.toString(), source.toString()).inheritIO().start();
            if (javac.waitFor() != 0) {
                say("its Java does not compile");
                return;
            }
            try (URLClassLoader loader = new URLClassLoader(new URL[] {out.toUri().toURL()})) {
                Method main = loader.loadClass("ReadmeProgram").getMethod("main", String[].class);
                main.invoke(null, (Object) new String[0]);
            }
        } finally {
            Files.deleteIfExists(source);
            Files.deleteIfExists(out.resolve("ReadmeProgram.class"));
            Files.deleteIfExists(out);
        }
    }
}
