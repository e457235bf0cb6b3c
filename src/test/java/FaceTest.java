import java.io.IOException;
import java.lang.reflect.Field;
import java.lang.reflect.Method;
import java.lang.reflect.Modifier;
import java.nio.file.Files;
import java.nio.file.Path;
import java.util.Arrays;
import java.util.HashSet;
import java.util.Set;
import java.util.TreeSet;
import java.util.regex.Matcher;
import java.util.regex.Pattern;

/** The public face of the document, and those rules of LANGUAGE.md that a look at the source can find broken. */
public final class FaceTest {
    private static final String SOURCE = "src/main/java/SecretDinner.java";
    private static final String[] FACE = {
        "int begin(int, int) IllegalArgumentException IllegalStateException",
        "int ask(int, int, boolean) IndexOutOfBoundsException IllegalArgumentException IllegalStateException",
        "boolean prove(int, int) IndexOutOfBoundsException IllegalStateException",
        "int leave(int) IndexOutOfBoundsException IllegalStateException",
        "int accuse(int) IndexOutOfBoundsException IllegalStateException",
        "int guest(int, int) IndexOutOfBoundsException IllegalArgumentException",
        "int value(int) IllegalArgumentException",
        "int question(int, int) IndexOutOfBoundsException IllegalArgumentException",
        "int deals()",
        "int dealsWith(int) IndexOutOfBoundsException",
        "int dealsHeld(int, int) IndexOutOfBoundsException",
        "int culprits()",
        "int likeliest()",
        "double chance(int) IndexOutOfBoundsException",
        "int dealsIf(int, int, int) IndexOutOfBoundsException IllegalArgumentException",
        "int worst(int, int) IndexOutOfBoundsException IllegalArgumentException",
        "int bestCards(int) IndexOutOfBoundsException",
        "double leftByProof(int, int) IndexOutOfBoundsException",
        "int append(int) IllegalArgumentException IllegalStateException",
        "int clearText()",
        "int play()",
        "int undo() IllegalStateException",
        "long digest()",
    };
    /** Words and signs that the rules leave out, and that this class has no use for. */
    private static final String[] FORBIDDEN = {
        "\\bimport\\b", "\\bpackage\\b", "->", "::", "\\btry\\b", "\\bcatch\\b", "\\bfinally\\b", "\\bassert\\b",
        "\\bsynchronized\\b", "\\binstanceof\\b", "\\bprotected\\b", "\\bnative\\b", "\\bvolatile\\b",
        "Exact\\(", "\\.Random\\b", "\\bThread\\b", "nanoTime", "currentTimeMillis", "System\\.(?!arraycopy)",
        "\\bequals\\(", "\\bhashCode\\(", "\\btoString\\(",
    };

    public static void main(String[] args) throws IOException {
        publicFace();
        noOtherMembers();
        namesOfThePublicOnes();
        String code = withoutComments(Files.readString(Path.of(SOURCE)));
        plainSigns();
        forbiddenWords(code);
        rowsAreMadeWithTheObject(code);
        lengths(code);
        room();
        Check.end();
    }

    private static void publicFace() {
        Class<?> type = SecretDinner.class;
        Check.due("modifiers of the class", type.getModifiers(), Modifier.PUBLIC | Modifier.FINAL);
        Set<String> found = new TreeSet<>();
        for (Method method : type.getDeclaredMethods()) {
            if (!Modifier.isPrivate(method.getModifiers())) {
                Check.due(method.getName() + " is public", method.getModifiers(), Modifier.PUBLIC);
                found.add(described(method));
            }
        }
        Check.due("methods", found.toString(), new TreeSet<>(Arrays.asList(FACE)).toString());
        Check.due("constructors", type.getDeclaredConstructors().length, 1);
        Check.due("constructor", type.getDeclaredConstructors()[0].toString(), "public SecretDinner()");
    }

    private static String described(Method method) {
        StringBuilder text = new StringBuilder();
        text.append(method.getReturnType().getName()).append(' ').append(method.getName()).append('(');
        for (int i = 0; i < method.getParameterCount(); i++) {
            text.append(i == 0 ? "" : ", ").append(method.getParameterTypes()[i].getName());
        }
        text.append(')');
        for (Class<?> exception : method.getExceptionTypes()) {
            text.append(' ').append(exception.getSimpleName());
        }
        return text.toString();
    }

    private static void noOtherMembers() {
        for (Field field : SecretDinner.class.getDeclaredFields()) {
            boolean constant = field.getName().equals("NONE");
            int open = Modifier.PUBLIC | Modifier.STATIC | Modifier.FINAL;
            Check.due(field + " is hidden", Modifier.isPrivate(field.getModifiers()), !constant);
            Check.due(field + " is the constant", field.getModifiers() == open, constant);
        }
        staticFieldsAreFinal(SecretDinner.class);
        for (Class<?> inside : SecretDinner.class.getDeclaredClasses()) {
            Check.due(inside + " is static", Modifier.isStatic(inside.getModifiers()), true);
            Check.due(inside + " is not public", Modifier.isPublic(inside.getModifiers()), false);
            staticFieldsAreFinal(inside);
        }
    }

    private static void staticFieldsAreFinal(Class<?> type) {
        int own = 0;
        for (Field field : type.getDeclaredFields()) {
            boolean fixed = Modifier.isFinal(field.getModifiers());
            boolean shared = Modifier.isStatic(field.getModifiers());
            Check.due(field + " is no static state", shared && !fixed, false);
            own += shared ? 0 : 1;
        }
        Check.due(type + " has some twenty fields", own <= 20, true);
    }

    private static void namesOfThePublicOnes() {
        Set<String> names = new HashSet<>();
        for (String line : FACE) {
            names.add(line.substring(line.indexOf(' ') + 1, line.indexOf('(')));
        }
        for (Class<?> inside : SecretDinner.class.getDeclaredClasses()) {
            for (Method method : inside.getDeclaredMethods()) {
                Check.due(method + " has a name of its own", names.contains(method.getName()), false);
                Check.due(method + " has few parameters", method.getParameterCount() <= 7, true);
            }
        }
        for (Method method : SecretDinner.class.getDeclaredMethods()) {
            boolean hidden = Modifier.isPrivate(method.getModifiers());
            Check.due(method + " has a name of its own", hidden && names.contains(method.getName()), false);
        }
    }

    private static String withoutComments(String source) {
        return source.replaceAll("(?s)/\\*.*?\\*/", "").replaceAll("//[^\n]*", "");
    }

    private static void forbiddenWords(String code) {
        for (String word : FORBIDDEN) {
            Check.due("the source has " + word, Pattern.compile(word).matcher(code).find(), false);
        }
        Matcher thrown = Pattern.compile("\\bthrow\\b([^;]*);").matcher(code);
        while (thrown.find()) {
            String form = " new (IllegalArgument|IllegalState|IndexOutOfBounds)Exception\\(\"[^\"]*\"\\)";
            Check.due("throw" + thrown.group(1), thrown.group(1).matches(form), true);
        }
    }

    private static void plainSigns() throws IOException {
        int other = 0;
        for (byte sign : Files.readAllBytes(Path.of(SOURCE))) {
            other += sign < 1 ? 1 : 0;
        }
        Check.due("signs that are not from 1 to 127", other, 0);
        Check.due("some twelve classes", SecretDinner.class.getDeclaredClasses().length <= 11, true);
    }

    /** No call makes anything but exceptions: what 512 calls make has to fit into one room. */
    private static void rowsAreMadeWithTheObject(String code) {
        for (String line : code.split("\n")) {
            String made = line.strip();
            boolean allowed = made.matches("throw new .*") || made.equals("saved[i] = new Dinner();")
                    || made.matches("private final \\S+ \\w+ = new .*");
            Check.due("made in \"" + made + "\"", allowed || !made.matches(".*\\bnew\\b.*"), true);
        }
    }

    /** The elements and fields of one object, with all that it holds: of 7.3 million that the room has. */
    private static void room() {
        long size = sizeOf(new SecretDinner());
        Check.due("an object has " + size + " fields and elements", size > 0 && size < 40000, true);
    }

    private static long sizeOf(Object held) {
        if (held instanceof int[] ints) {
            return ints.length;
        }
        if (held instanceof long[] longs) {
            return longs.length;
        }
        long size = 0;
        if (held instanceof Object[] objects) {
            for (Object one : objects) {
                size += 1 + sizeOf(one);
            }
            return size;
        }
        for (Field field : held.getClass().getDeclaredFields()) {
            if (!Modifier.isStatic(field.getModifiers())) {
                size += 1 + (field.getType().isPrimitive() ? 0 : sizeOf(valueOf(field, held)));
            }
        }
        return size;
    }

    private static Object valueOf(Field field, Object held) {
        try {
            field.setAccessible(true);
            return field.get(held);
        } catch (IllegalAccessException e) {
            throw new AssertionError(e);
        }
    }

    private static void lengths(String code) {
        int start = 0;
        int number = 0;
        for (String line : code.split("\n")) {
            number++;
            if (line.matches(" {4}( {4})?\\S.*\\) .*\\{") && !line.contains(" if ") && !line.contains(" for ")) {
                start = number;
            }
            if (line.matches(" {4}( {4})?\\}")) {
                Check.due("the method before line " + number + " is short", number - start <= 60, true);
            }
        }
    }
}
