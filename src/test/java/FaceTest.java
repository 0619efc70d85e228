import java.io.IOException;
import java.lang.reflect.Constructor;
import java.lang.reflect.Field;
import java.lang.reflect.Method;
import java.lang.reflect.Modifier;
import java.nio.file.Files;
import java.nio.file.Path;
import java.util.List;
import java.util.Set;
import java.util.TreeSet;

/** The public face against the document, and those rules of LANGUAGE.md that a look at the text and the class shows. */
public final class FaceTest {
    private static final Path DOCUMENT = Path.of("../shared/DOC.md");
    private static final Path PROGRAM = Path.of("src/main/java/ContainerTerminal.java");

    public static void main(String[] arguments) throws IOException {
        face();
        members();
        words();
        methodsAreShort();
        Check.end();
    }

    private static void face() throws IOException {
        Set<String> documented = new TreeSet<>();
        for (String line : Files.readAllLines(DOCUMENT)) {
            if (line.startsWith("    public ")) {
                documented.add(line.trim());
            }
        }
        Set<String> built = new TreeSet<>();
        for (Constructor<?> constructor : ContainerTerminal.class.getConstructors()) {
            built.add("public ContainerTerminal(" + types(constructor.getParameterTypes()) + ");");
        }
        for (Method method : ContainerTerminal.class.getDeclaredMethods()) {
            if (Modifier.isPublic(method.getModifiers())) {
                built.add(told(method));
            }
        }
        Check.due("number of members", 65, documented.size());
        Set<String> plain = new TreeSet<>();
        for (String line : documented) {
            plain.add(line.replaceAll("\\b(int|boolean|char) \\w+(?=[,)])", "$1"));
        }
        Check.due("face", plain, built);
    }

    private static String told(Method method) {
        String thrown = types(method.getExceptionTypes());
        return "public " + method.getReturnType().getSimpleName() + " " + method.getName() + "("
            + types(method.getParameterTypes()) + ")" + (thrown.isEmpty() ? "" : " throws " + thrown) + ";";
    }

    private static String types(Class<?>[] types) {
        StringBuilder names = new StringBuilder();
        for (Class<?> type : types) {
            names.append(names.length() > 0 ? ", " : "").append(type.getSimpleName());
        }
        return names.toString();
    }

    private static void members() {
        Class<?> program = ContainerTerminal.class;
        Check.due("the class", Modifier.PUBLIC | Modifier.FINAL, program.getModifiers());
        Set<String> faceNames = new TreeSet<>();
        for (Method method : program.getDeclaredMethods()) {
            if (Modifier.isPublic(method.getModifiers())) {
                faceNames.add(method.getName());
            }
        }
        ownMembers(program, faceNames);
        Check.due("at most twelve classes", true, program.getDeclaredClasses().length < 12);
        for (Class<?> inside : program.getDeclaredClasses()) {
            boolean hidden = !Modifier.isPublic(inside.getModifiers()) && !Modifier.isProtected(inside.getModifiers());
            Check.due("class " + inside, true, hidden && Modifier.isStatic(inside.getModifiers()));
            ownMembers(inside, faceNames);
        }
    }

    private static void ownMembers(Class<?> owner, Set<String> faceNames) {
        int fields = 0;
        for (Field field : owner.getDeclaredFields()) {
            Check.due("field " + field, true, Modifier.isPrivate(field.getModifiers()));
            boolean fixed = Modifier.isFinal(field.getModifiers());
            Check.due("static field " + field, true, fixed || !Modifier.isStatic(field.getModifiers()));
            fields += Modifier.isStatic(field.getModifiers()) ? 0 : 1;
        }
        Check.due("at most twenty fields in " + owner, true, fields <= 20);
        for (Method method : owner.getDeclaredMethods()) {
            Check.due("at most seven parameters of " + method, true, method.getParameterCount() <= 7);
            if (!Modifier.isPublic(method.getModifiers())) {
                Check.due("name of " + method, false, faceNames.contains(method.getName()));
            }
            if (owner == ContainerTerminal.class) {
                boolean known = Modifier.isPublic(method.getModifiers()) || Modifier.isPrivate(method.getModifiers());
                Check.due("public or private: " + method, true, known);
            }
        }
    }

    private static void words() throws IOException {
        String program = Files.readString(PROGRAM);
        Check.due("imports", 1, program.split("\nimport |^import ", -1).length - 1);
        Check.due("the import", true, program.startsWith("import java.util.NoSuchElementException;"));
        for (String word : List.of("catch", "try", "finally", "synchronized", "assert", "Object", "equals", "hashCode",
                "toString", "System.out", "currentTimeMillis", "nanoTime", "Random", "Thread", "Exact(", "->", "::",
                "instanceof", "package", "@")) {
            String quoted = java.util.regex.Pattern.quote(word);
            boolean isWord = Character.isLetter(word.charAt(0)) && Character.isLetter(word.charAt(word.length() - 1));
            String pattern = isWord ? "(?s).*\\b" + quoted + "\\b.*" : "(?s).*" + quoted + ".*";
            Check.due("the word " + word, false, program.matches(pattern));
        }
        Check.due("signs 1 to 127", true, program.chars().allMatch(sign -> sign >= 1 && sign <= 127));
    }

    private static void methodsAreShort() throws IOException {
        int depth = 0;
        int since = 0;
        List<String> lines = Files.readAllLines(PROGRAM);
        for (int number = 0; number < lines.size(); number++) {
            String line = lines.get(number);
            boolean starts = line.matches(" {4}( {4})?[a-z].*\\(.*") && !line.contains("class ");
            since = starts && !line.endsWith(";") ? number : since;
            if (line.equals("    }") || line.equals("        }")) {
                depth = Math.max(depth, number - since + 1);
            }
            Check.due("length of line " + (number + 1), true, line.length() <= 120);
        }
        Check.due("lines of the longest method, " + depth, true, depth <= 60);
    }
}
