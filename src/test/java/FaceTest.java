import java.io.IOException;
import java.lang.reflect.Executable;
import java.lang.reflect.Field;
import java.lang.reflect.Method;
import java.lang.reflect.Modifier;
import java.nio.file.Files;
import java.nio.file.Path;
import java.util.ArrayList;
import java.util.Arrays;
import java.util.List;
import java.util.TreeSet;
import java.util.stream.Collectors;

/** The public face is that of the document, and the program keeps to those rules of the language that a text shows. */
public final class FaceTest {
    private static final Path DOCUMENT = Path.of("../shared/DOC.md");
    private static final Path PROGRAM = Path.of("src/main/java/ShawlKnitter.java");

    public static void main(String[] arguments) throws Exception {
        Check.subject("the public face");
        Check.same("the members", faceOfDocument(), faceOfClass());
        Check.same("the class", "public final", Modifier.toString(ShawlKnitter.class.getModifiers()));
        members();
        Check.subject("the rules of the language");
        classesInside();
        wordsOfProgram();
        Check.finish();
    }

    private static TreeSet<String> faceOfDocument() throws IOException {
        TreeSet<String> face = new TreeSet<>();
        boolean inFace = false;
        for (String line : Files.readAllLines(DOCUMENT)) {
            inFace = line.startsWith("public final class") || inFace && !line.startsWith("}");
            if (inFace && line.startsWith("    public ")) {
                face.add(line.trim().replace(";", "").replaceAll("(int|boolean|char) \\w+(?=[,)])", "$1"));
            }
        }
        return face;
    }

    private static TreeSet<String> faceOfClass() throws IllegalAccessException {
        TreeSet<String> face = new TreeSet<>();
        for (Field field : ShawlKnitter.class.getFields()) {
            face.add(Modifier.toString(field.getModifiers()) + " " + field.getType() + " " + field.getName() + " = "
                    + field.get(null));
        }
        for (Executable constructor : ShawlKnitter.class.getConstructors()) {
            face.add("public ShawlKnitter" + tail(constructor));
        }
        for (Method method : ShawlKnitter.class.getDeclaredMethods()) {
            if (Modifier.isPublic(method.getModifiers())) {
                face.add(Modifier.toString(method.getModifiers()) + " " + method.getReturnType() + " "
                        + method.getName() + tail(method));
            }
        }
        return face;
    }

    private static String tail(Executable executable) {
        String parameters = names(executable.getParameterTypes());
        String thrown = names(executable.getExceptionTypes());
        return "(" + parameters + ")" + (thrown.isEmpty() ? "" : " throws " + thrown);
    }

    private static String names(Class<?>[] types) {
        return Arrays.stream(types).map(Class::getSimpleName).collect(Collectors.joining(", "));
    }

    private static void members() {
        List<String> wrong = new ArrayList<>();
        TreeSet<String> names = new TreeSet<>();
        for (Method method : ShawlKnitter.class.getMethods()) {
            names.add(method.getName());
        }
        for (Field field : ShawlKnitter.class.getDeclaredFields()) {
            boolean shown = Modifier.isPublic(field.getModifiers()) && Modifier.isStatic(field.getModifiers());
            addIf(wrong, !shown && !Modifier.isPrivate(field.getModifiers()), field.getName());
        }
        for (Method method : ShawlKnitter.class.getDeclaredMethods()) {
            boolean hidden = Modifier.isPrivate(method.getModifiers());
            addIf(wrong, !hidden && !Modifier.isPublic(method.getModifiers()), method.getName());
            addIf(wrong, hidden && names.contains(method.getName()), method.getName());
        }
        for (Class<?> inside : ShawlKnitter.class.getDeclaredClasses()) {
            for (Method method : inside.getDeclaredMethods()) {
                addIf(wrong, names.contains(method.getName()), inside.getSimpleName() + "." + method.getName());
            }
        }
        Check.same("the members that are neither of the face nor private, or bear a name of it", List.of(), wrong);
    }

    private static void addIf(List<String> names, boolean applies, String name) {
        if (applies) {
            names.add(name);
        }
    }

    private static void classesInside() {
        List<String> wrong = new ArrayList<>();
        Class<?>[] inside = ShawlKnitter.class.getDeclaredClasses();
        for (Class<?> each : inside) {
            addIf(wrong, !Modifier.isStatic(each.getModifiers()) || Modifier.isPublic(each.getModifiers()),
                    each.getSimpleName());
            long fields = Arrays.stream(each.getDeclaredFields())
                    .filter(field -> !Modifier.isStatic(field.getModifiers())).count();
            addIf(wrong, fields > 20, each.getSimpleName());
        }
        Check.same("classes that are not static, or have too many fields", List.of(), wrong);
        Check.same("at most 12 classes", true, inside.length < 12);
    }

    private static void wordsOfProgram() throws IOException {
        String program = Files.readString(PROGRAM);
        String code = program.replaceAll("(?s)/\\*.*?\\*/", "").replaceAll("//[^\n]*", "");
        String words = code.replaceAll("\"[^\"\n]*\"|'.'", "''");
        List<String> wrong = new ArrayList<>();
        for (String forbidden : List.of("package ", "->", "::", "\\btry\\b", "\\bcatch\\b", "\\bfinally\\b",
                "\\bsynchronized\\b", "\\bassert\\b", "static \\{", "\\bprotected\\b", "Exact\\(", "'' \\+", "\\+ ''",
                "\\bSystem\\.(?!arraycopy)", "\\bThread\\b", "\\bRandom\\b", "\\bvar\\b", "\\bvolatile\\b")) {
            addIf(wrong, words.matches("(?s).*" + forbidden + ".*"), forbidden);
        }
        Check.same("words that the rules do not leave", List.of(), wrong);
        Check.same("the imports", List.of("import java.util.NoSuchElementException;"),
                words.lines().filter(line -> line.startsWith("import")).toList());
        Check.same("all characters are ASCII", true, program.chars().allMatch(sign -> sign < 128));
        Check.same("the longest line has at most 120 characters", true,
                program.lines().allMatch(line -> line.length() <= 120));
    }
}
