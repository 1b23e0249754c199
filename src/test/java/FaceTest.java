import java.io.IOException;
import java.lang.reflect.Constructor;
import java.lang.reflect.Field;
import java.lang.reflect.Method;
import java.lang.reflect.Modifier;
import java.nio.charset.StandardCharsets;
import java.nio.file.Files;
import java.nio.file.Path;
import java.util.ArrayList;
import java.util.Arrays;
import java.util.List;
import java.util.TreeSet;
import java.util.regex.Matcher;
import java.util.regex.Pattern;

/** The public face of the document and nothing else, and what LANGUAGE.md says of the source. */
public final class FaceTest {
    private static final String[] FACE = {
        "int feed(int,int,int,int,int)", "boolean end(int)", "int fault(int)", "int text(int)", "int rule(int)",
        "int drama(int,int)", "int chair(int,int) NoSuchElementException", "int sitter(int,int)", "boolean law(int)",
        "boolean flu(int)", "int evening(int)", "int change(int,int)", "boolean ill(int)", "int heart(int,int)",
        "int give(int,int)", "int price(int)", "int years(int,long)", "int undo()", "int log(int,int)",
        "int step(int,int,int)", "int run(int,int)", "int perform(int)", "int feels(int,int,int)", "int first(int)",
        "int tickets(int,int,int)", "int most(int,int)", "int howled(int,int,int,int,boolean)", "int whose(int)",
        "int following(int,int)", "int halves(int,int,int)", "int game(int,int,int,int,int,int)",
        "int rests(int,int,int,int)", "int borne(int,int)", "int meant(int,int)", "int odds(int,int,int)",
        "int all(int)", "int peak(int,int)", "int house(int)", "int hardens(int,int)", "int image()", "int back()",
        "int count(int)"};
    private static final String[] RULED_OUT = {
        "->", "::", "\\bfinally\\b", "\\btry\\b", "\\bcatch\\b", "\\bsynchronized\\b", "\\bassert\\b", "Exact\\b",
        "static\\s*\\{", "\\bprotected\\b", "\\bpackage\\b", "\\bdouble\\b", "\\bfloat\\b", "\\bSystem\\.(?!arraycopy)",
        "\\bThread\\b", "\\bRandom\\b", "\\bObject\\b", "\\bvar\\b", "\\.toString\\b", "\\.hashCode\\b", "\\[\\]\\[\\]",
        "\\bMath\\.(?!max|min|abs|floorDiv|floorMod)", "\\bArrays\\.(?!fill|copyOf\\b)", "\\bInteger\\.(?!bitCount)"};

    private static int wrong = 0;

    private static void due(boolean holds, String what) {
        if (!holds) {
            wrong++;
            System.out.println(what);
        }
    }

    public static void main(String[] args) throws IOException {
        face();
        inside();
        source();
        System.out.println(wrong == 0 ? "the face is as due" : wrong + " things are not as due");
        if (wrong != 0) {
            System.exit(1);
        }
    }

    private static void face() {
        Class<?> c = ArmchairHouse.class;
        due(Modifier.isPublic(c.getModifiers()) && Modifier.isFinal(c.getModifiers()), "the class is not public and final");
        due(c.getSuperclass() == Object.class && c.getInterfaces().length == 0, "the class is something else besides");
        TreeSet<String> found = new TreeSet<>();
        for (Method m : c.getDeclaredMethods()) {
            if (!Modifier.isPrivate(m.getModifiers())) {
                due(Modifier.isPublic(m.getModifiers()) && !Modifier.isStatic(m.getModifiers()), "visible: " + m);
                found.add(line(m));
            }
        }
        due(found.equals(new TreeSet<>(Arrays.asList(FACE))), "the methods are " + found);
        Constructor<?>[] made = c.getDeclaredConstructors();
        due(made.length == 1 && made[0].getParameterCount() == 0 && Modifier.isPublic(made[0].getModifiers()),
            "the constructor is another one");
        TreeSet<String> fields = new TreeSet<>();
        for (Field f : c.getDeclaredFields()) {
            if (!Modifier.isPrivate(f.getModifiers())) {
                fields.add(Modifier.toString(f.getModifiers()) + " " + f.getType() + " " + f.getName());
            }
        }
        due(fields.toString().equals("[public static final int HIDDEN, public static final int NONE]"), "fields: " + fields);
    }

    private static String line(Method m) {
        List<String> types = new ArrayList<>();
        for (Class<?> t : m.getParameterTypes()) {
            types.add(t.getSimpleName());
        }
        String line = m.getReturnType().getSimpleName() + " " + m.getName() + "(" + String.join(",", types) + ")";
        for (Class<?> t : m.getExceptionTypes()) {
            line += " " + t.getSimpleName();
        }
        return line;
    }

    private static void inside() {
        TreeSet<String> names = new TreeSet<>();
        for (String f : FACE) {
            names.add(f.replaceAll("^\\w+ (\\w+)\\(.*", "$1"));
        }
        List<Class<?>> all = new ArrayList<>(List.of(ArmchairHouse.class));
        all.addAll(Arrays.asList(ArmchairHouse.class.getDeclaredClasses()));
        due(all.size() <= 12, "there are " + all.size() + " classes");
        for (Class<?> c : all) {
            if (c != ArmchairHouse.class) {
                due(Modifier.isStatic(c.getModifiers()) && !Modifier.isPublic(c.getModifiers()), "inside: " + c);
            }
            int own = 0;
            for (Field f : c.getDeclaredFields()) {
                boolean fixed = Modifier.isStatic(f.getModifiers());
                due(!fixed || Modifier.isFinal(f.getModifiers()), "static and not final: " + f);
                own += fixed ? 0 : 1;
            }
            due(own <= 20, c + " has " + own + " fields");
            for (Method m : c.getDeclaredMethods()) {
                due(m.getParameterCount() <= 7, "more than seven: " + m);
                due(c == ArmchairHouse.class && Modifier.isPublic(m.getModifiers()) || !names.contains(m.getName()),
                    "a name of the face: " + m);
            }
        }
    }

    private static void source() throws IOException {
        Path path = Path.of("src/main/java/ArmchairHouse.java");
        String text = Files.readString(path, StandardCharsets.ISO_8859_1);
        due(text.chars().allMatch(ch -> ch == '\n' || ch >= 32 && ch < 127), "a sign beyond 127 or a tab");
        String code = text.replaceAll("(?s)/\\*.*?\\*/", "").replaceAll("//.*", "").replaceAll("\"[^\"\n]*\"", "\"\"");
        for (String out : RULED_OUT) {
            Matcher m = Pattern.compile(out).matcher(code);
            due(!m.find(), "ruled out: " + out);
        }
        Matcher imports = Pattern.compile("(?m)^import (.*);").matcher(code);
        while (imports.find()) {
            due(List.of("java.util.Arrays", "java.util.NoSuchElementException").contains(imports.group(1)),
                "import " + imports.group(1));
        }
        int from = -1;
        String[] lines = text.split("\n");
        for (int i = 0; i < lines.length; i++) {
            due(lines[i].length() <= 120, "a long line: " + (i + 1));
            if (lines[i].matches(" +[\\w\\[\\] ]+\\(.*\\{") && !lines[i].matches(".*\\b(if|for|while|switch|else)\\b.*")) {
                from = i;
            }
            due(from < 0 || i - from <= 60 || !lines[i].matches(" +}"), "a long method at line " + (from + 1));
            if (lines[i].matches("(    |        )}")) {
                from = -1;
            }
        }
    }
}
