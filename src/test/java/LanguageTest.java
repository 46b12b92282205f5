import java.io.IOException;
import java.lang.reflect.Constructor;
import java.lang.reflect.Field;
import java.lang.reflect.Method;
import java.lang.reflect.Modifier;
import java.nio.file.Files;
import java.nio.file.Path;
import java.util.Arrays;
import java.util.List;
import java.util.TreeSet;
import java.util.regex.Matcher;
import java.util.regex.Pattern;

/** Rules of LANGUAGE.md that can be seen in the text of the class, or in the class as it is compiled. */
public final class LanguageTest {
    private static final String FACE = "as ask bears calm copy count dies drop farmers fault feed kind land ministry now"
        + " print prints round set sheet shown status steep trace years";

    public static void main(String[] args) throws IOException {
        String source = Files.readString(Path.of("src/main/java/PigRounds.java"));
        String code = source.replaceAll("(?s)/\\*.*?\\*/", "").replaceAll("//[^\n]*", "");
        face();
        classes();
        words(code);
        lengths(code);
        Due.end();
    }

    private static void holds(String rule, boolean it) {
        Due.due(rule, it ? 1 : 0, 1);
    }

    private static void face() {
        TreeSet<String> names = new TreeSet<>();
        for (Method m : PigRounds.class.getDeclaredMethods()) {
            if (Modifier.isPublic(m.getModifiers())) {
                names.add(m.getName());
            }
        }
        holds("rule 1: the face is " + names, String.join(" ", names).equals(FACE));
        for (Method m : PigRounds.class.getDeclaredMethods()) {
            boolean open = Modifier.isPublic(m.getModifiers());
            holds("rule 1: " + m, open || Modifier.isPrivate(m.getModifiers()) && !names.contains(m.getName()));
        }
        List<String> constants = Arrays.asList("NONE", "BAD", "STATE", "FULL");
        for (Field f : PigRounds.class.getDeclaredFields()) {
            int m = f.getModifiers();
            holds("rule 1: " + f, constants.contains(f.getName()) ? Modifier.isPublic(m) : Modifier.isPrivate(m));
        }
        Constructor<?>[] constructors = PigRounds.class.getDeclaredConstructors();
        holds("rule 1: constructor", constructors.length == 1 && Modifier.isPublic(constructors[0].getModifiers()));
        holds("rule 1: final", Modifier.isFinal(PigRounds.class.getModifiers()));
        for (Class<?> c : PigRounds.class.getDeclaredClasses()) {
            for (Method m : c.getDeclaredMethods()) {
                holds("rule 1: a name of the face in " + m, !names.contains(m.getName()));
            }
        }
    }

    private static void classes() {
        Class<?>[] inside = PigRounds.class.getDeclaredClasses();
        holds("rule 11: " + inside.length + " classes", inside.length < 12);
        fields(PigRounds.class);
        for (Class<?> c : inside) {
            int m = c.getModifiers();
            holds("rule 2: " + c, Modifier.isStatic(m) && !Modifier.isPublic(m) && !Modifier.isProtected(m));
            holds("rule 2: classes in " + c, c.getDeclaredClasses().length == 0);
            fields(c);
            for (Method method : c.getDeclaredMethods()) {
                holds("rule 11: parameters of " + method, method.getParameterCount() <= 7);
            }
        }
    }

    private static void fields(Class<?> c) {
        int own = 0;
        for (Field f : c.getDeclaredFields()) {
            boolean still = Modifier.isStatic(f.getModifiers());
            own += still ? 0 : 1;
            holds("rule 5: " + f, !still || Modifier.isFinal(f.getModifiers()));
        }
        holds("rule 11: fields of " + c, own <= 20);
    }

    private static void words(String code) {
        String[] never = {"throw", "throws", "try", "catch", "finally", "synchronized", "assert", "new Object", "Exact",
            "hashCode", "toString", "package", "float", "double", "Random", "Thread", "goto", "native", "volatile"};
        for (String word : never) {
            holds("rule 6: " + word, !Pattern.compile("\\b" + word + "\\b").matcher(code).find());
        }
        holds("rule 2: lambda", !code.contains("->") && !code.contains("::"));
        Matcher imports = Pattern.compile("import [^;]*;").matcher(code);
        while (imports.find()) {
            holds("rule 4: " + imports.group(), imports.group().equals("import java.util.Arrays;"));
        }
        Matcher library = Pattern.compile("\\b(Math|Integer|Long|Arrays|System)\\.(\\w+)").matcher(code);
        while (library.find()) {
            holds("rule 4: " + library.group(), Arrays.asList("Math.max", "Math.min", "Math.abs", "Integer.bitCount",
                "Arrays.fill", "System.arraycopy").contains(library.group()));
        }
        holds("signs 1 to 127", code.chars().allMatch(ch -> ch >= 1 && ch <= 127));
        // Rows are made with the object and used again: no call makes anything.
        for (String line : code.split("\n")) {
            if (line.matches(".*\\bnew\\b.*")) {
                holds("rule 12: " + line.trim(), line.matches(" *(private )?(static )?(final )?[\\w\\[\\]]+ \\w+ = new .*")
                    || line.matches(" *(sheets|kinds)\\[\\w\\] = new \\w+\\(\\);"));
            }
        }
    }

    private static void lengths(String code) {
        String[] lines = code.split("\n");
        int start = -1;
        for (int i = 0; i < lines.length; i++) {
            if (start < 0 && lines[i].matches(" {4,8}[\\w\\[\\] ]+\\([^;]*\\) \\{")) {
                start = i;
            }
            String indent = start < 0 ? "" : lines[start].replaceAll("\\S.*", "");
            if (start >= 0 && lines[i].equals(indent + "}")) {
                holds("rule 11: lines of " + lines[start].trim(), i - start + 1 <= 60);
                start = -1;
            }
        }
        holds("rule 11: all methods end", start < 0);
    }
}
