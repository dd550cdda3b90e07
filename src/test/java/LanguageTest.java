import java.io.IOException;
import java.lang.reflect.Constructor;
import java.lang.reflect.Field;
import java.lang.reflect.Method;
import java.lang.reflect.Modifier;
import java.nio.file.Files;
import java.nio.file.Path;
import java.util.ArrayList;
import java.util.Arrays;
import java.util.List;
import java.util.Set;
import java.util.TreeSet;
import java.util.regex.Matcher;
import java.util.regex.Pattern;

/** The face of the document, and the rules of the language that can be told by reflection or by a text search. */
public final class LanguageTest {
    private static final String[] FACE = {
        "int type(long, int)", "int clear()", "int sky()", "int star(int, int)", "int lease(int, int)",
        "int whose(int, int)", "int claims(int, int)", "int cycle()", "int night()", "int purse(int)",
        "int begins(int, int, int, int, int)", "int ends(int)", "int undo()", "int lot(int)",
        "int dark(int, int, int)", "int meets(int, int, int)", "int offer(int, int, int, int, int, int)",
        "int refuse()", "int letting(int, int, int)", "int saw(int, int)", "int forget()", "int dates(int)",
        "int odds(int, int, int, int)", "int rate(int, int)", "int keep(int)", "int back(int)", "int count(int)",
        "long trace()"};
    private static final String[] CONSTANTS = {"BAD -1", "FULL -3", "NO -1000000", "NONE -9", "STATE -2"};
    private static final String[] FORBIDDEN = {
        "\\bthrows?\\b", "\\btry\\b", "\\bcatch\\b", "\\bsynchronized\\b", "\\bassert\\b", "->", "::", "Exact\\b",
        "\\bhashCode\\b", "\\btoString\\b", "\\bprotected\\b", "\\bObject\\b", "\\bSystem\\.(?!arraycopy\\b)",
        "\\bMath\\.(?!max\\b|min\\b|abs\\b|floorMod\\b|floorDiv\\b)", "\\bArrays\\.(?!fill\\b|copyOf\\b|copyOfRange\\b)",
        "\\bwhile \\(true\\)", "for \\(;;", "\\bstatic \\{"};
    private static final int LONGEST_METHOD = 60;
    private static final int MOST_CLASSES = 12;
    private static final int MOST_FIELDS = 20;

    private static final List<String> faults = new ArrayList<>();

    private static void must(boolean holds, String rule) {
        if (!holds) {
            faults.add(rule);
        }
    }

    private static String signatureOf(Method m) {
        List<String> types = new ArrayList<>();
        for (Class<?> type : m.getParameterTypes()) {
            types.add(type.getSimpleName());
        }
        return m.getReturnType().getSimpleName() + " " + m.getName() + "(" + String.join(", ", types) + ")";
    }

    private static void checkFace() throws IllegalAccessException {
        Class<?> c = SkyLeases.class;
        must(Modifier.isPublic(c.getModifiers()) && Modifier.isFinal(c.getModifiers()), "the class is public and final");
        Set<String> methods = new TreeSet<>();
        for (Method m : c.getDeclaredMethods()) {
            if (!Modifier.isPrivate(m.getModifiers())) {
                must(Modifier.isPublic(m.getModifiers()) && !Modifier.isStatic(m.getModifiers()), m + " is public");
                methods.add(signatureOf(m));
            }
        }
        must(methods.equals(new TreeSet<>(Arrays.asList(FACE))), "the methods of the face are not as told: " + methods);
        Set<String> constants = new TreeSet<>();
        for (Field f : c.getDeclaredFields()) {
            if (!Modifier.isPrivate(f.getModifiers())) {
                constants.add(f.getName() + " " + f.getInt(null));
            }
        }
        must(constants.equals(new TreeSet<>(Arrays.asList(CONSTANTS))), "the constants are not as told: " + constants);
        Constructor<?>[] constructors = c.getDeclaredConstructors();
        must(constructors.length == 1 && constructors[0].getParameterCount() == 0
            && Modifier.isPublic(constructors[0].getModifiers()), "one public constructor");
    }

    private static void checkClasses() {
        Set<String> publicNames = new TreeSet<>();
        for (String line : FACE) {
            publicNames.add(line.substring(line.indexOf(' ') + 1, line.indexOf('(')));
        }
        List<Class<?>> classes = new ArrayList<>(Arrays.asList(SkyLeases.class.getDeclaredClasses()));
        for (Class<?> c : classes) {
            must(Modifier.isStatic(c.getModifiers()), c + " is static");
            must(!Modifier.isPublic(c.getModifiers()) && !Modifier.isProtected(c.getModifiers()), c + " is not public");
        }
        classes.add(SkyLeases.class);
        must(classes.size() <= MOST_CLASSES, "at most twelve classes");
        for (Class<?> c : classes) {
            int fields = 0;
            for (Field f : c.getDeclaredFields()) {
                boolean isStatic = Modifier.isStatic(f.getModifiers());
                must(!isStatic || Modifier.isFinal(f.getModifiers()), f + " is a static that is not final");
                fields += isStatic ? 0 : 1;
            }
            must(fields <= MOST_FIELDS, c + " has too many fields");
            for (Method m : c.getDeclaredMethods()) {
                must(m.getParameterCount() <= 7, m + " takes too many parameters");
                boolean isOfFace = c == SkyLeases.class && Modifier.isPublic(m.getModifiers());
                must(isOfFace || !publicNames.contains(m.getName()), m + " bears the name of a public one");
            }
        }
    }

    private static void checkText(String source) {
        must(source.chars().allMatch(ch -> ch == '\n' || ch >= 32 && ch < 127), "plain signs alone");
        must(!source.contains("package "), "no package");
        String code = source.replaceAll("(?s)/\\*.*?\\*/", "").replaceAll("//[^\n]*", "")
            .replaceAll("\"[^\"]*\"", "\"\"");
        Matcher imports = Pattern.compile("import ([^;]*);").matcher(code);
        while (imports.find()) {
            must(imports.group(1).matches("java\\.util\\.(Arrays|ArrayList|List)"), "import of " + imports.group(1));
        }
        for (String rule : FORBIDDEN) {
            Matcher m = Pattern.compile(rule).matcher(code);
            must(!m.find(), "forbidden: " + rule);
        }
        // All rows are made with the object, so that no call makes anything.
        for (String line : code.split("\n")) {
            must(!line.matches(".*\\bnew\\b.*") || line.matches(" +(private )?(final )?[A-Za-z]+(\\[\\])? [a-zA-Z]+ = new .*;"),
                "made outside a field: " + line);
        }
        checkLengths(code);
    }

    private static void checkLengths(String code) {
        String[] lines = code.split("\n");
        int start = -1;
        String indent = "";
        for (int i = 0; i < lines.length; i++) {
            if (start < 0 && lines[i].matches(" +[A-Za-z].*\\) \\{") && !lines[i].matches(" +(if|for|while|switch) .*")) {
                start = i;
                indent = lines[i].replaceAll("\\S.*", "");
            } else if (start >= 0 && lines[i].equals(indent + "}")) {
                must(i - start < LONGEST_METHOD, "too long: " + lines[start]);
                start = -1;
            }
        }
    }

    public static void main(String[] args) throws IOException, IllegalAccessException {
        checkFace();
        checkClasses();
        checkText(Files.readString(Path.of("src/main/java/SkyLeases.java")));
        for (String fault : faults) {
            System.out.println(fault);
        }
        System.out.println(faults.isEmpty() ? "the face and the language are as told" : faults.size() + " faults");
        if (!faults.isEmpty()) {
            System.exit(1);
        }
    }
}
