import java.io.IOException;
import java.lang.reflect.Constructor;
import java.lang.reflect.Field;
import java.lang.reflect.Member;
import java.lang.reflect.Method;
import java.lang.reflect.Modifier;
import java.nio.file.Files;
import java.nio.file.Path;
import java.util.Set;
import java.util.TreeSet;
import java.util.regex.Matcher;
import java.util.regex.Pattern;

/** The public face of the class is the document's, and the file keeps to LANGUAGE.md. */
public final class FaceTest {
    private static final String I = " IndexOutOfBoundsException";
    private static final String A = " IllegalArgumentException";
    private static final String S = " IllegalStateException";

    private static final String[] FACE = {
        "int weight 2" + I + A, "int modulus 1" + A, "int book 2" + I + A + S,
        "int write 2" + I + A + S, "int cash 2" + I + A, "int voidRun 2" + I + A,
        "int append 1" + A + S, "int clearBuffer 0", "int firstError 0", "int execute 0" + A,
        "int undo 0" + S, "int keep 1" + A, "int goBack 1" + A + S, "int letter 1" + I,
        "int cheque 2" + I + A, "int bookOf 2" + I + A, "int count 1" + A, "int ranked 1" + A,
        "int missed 2" + I + A, "int weak 3" + I + A, "boolean finds 1" + A, "int bestWeight 1" + I,
        "int meant 3" + I + A, "int slip 3" + I + A, "double cashed 0"};

    /** What no line of the class may hold, but for comments and texts. */
    private static final String[] BARRED = {"->", "::", "\\bcatch\\b", "\\btry\\b", "\\bfinally\\b",
        "\\bsynchronized\\b", "\\bassert\\b", "\\bpackage\\b", "\\bprotected\\b", "\\bSystem\\b",
        "\\bObject\\b", "\\bequals\\b", "\\bhashCode\\b", "\\btoString\\b", "\\bvar\\b",
        "\\bnative\\b", "\\bThread\\b", "\\bRandom\\b", "\\bimport\\b", "\\bwhile\\b"};

    public static void main(String[] args) throws IOException {
        methods();
        members(ChequeSerials.class, true);
        for (Class<?> inside : ChequeSerials.class.getDeclaredClasses()) {
            Checks.due(inside + " is static", Modifier.isStatic(inside.getModifiers()), true);
            Checks.due(inside + " is public", Modifier.isPublic(inside.getModifiers()), false);
            members(inside, false);
        }
        Path file = Path.of("src/main/java/ChequeSerials.java");
        source(Files.readString(file));
        Checks.end();
    }

    private static void methods() {
        Set<String> due = new TreeSet<>(Set.of(FACE));
        Set<String> got = new TreeSet<>();
        for (Method method : ChequeSerials.class.getDeclaredMethods()) {
            if (Modifier.isPublic(method.getModifiers())) {
                got.add(face(method));
            }
        }
        Checks.due("the public methods", got.toString(), due.toString());
        int modifiers = ChequeSerials.class.getModifiers();
        Checks.due("public", Modifier.isPublic(modifiers), true);
        Checks.due("final", Modifier.isFinal(modifiers), true);
        Constructor<?>[] constructors = ChequeSerials.class.getDeclaredConstructors();
        Checks.due("constructors", constructors.length, 1);
        Checks.due("parameters", constructors[0].getParameterCount(), 0);
    }

    private static String face(Method method) {
        StringBuilder text = new StringBuilder();
        text.append(method.getReturnType().getName()).append(' ').append(method.getName());
        text.append(' ').append(method.getParameterCount());
        for (Class<?> parameter : method.getParameterTypes()) {
            Checks.due("a parameter of " + method, parameter.getName(), "int");
        }
        for (Class<?> thrown : method.getExceptionTypes()) {
            text.append(' ').append(thrown.getSimpleName());
        }
        return text.toString();
    }

    private static void members(Class<?> of, boolean face) {
        int fields = 0;
        for (Field field : of.getDeclaredFields()) {
            boolean isStatic = Modifier.isStatic(field.getModifiers());
            fields += isStatic ? 0 : 1;
            Checks.due(field + " is final or of an object",
                    !isStatic || Modifier.isFinal(field.getModifiers()), true);
            boolean open = face && field.getName().equals("NONE");
            hidden(field, face, open);
        }
        Checks.due("few fields in " + of, fields <= 20, true);
        for (Method method : of.getDeclaredMethods()) {
            boolean open = face && Modifier.isPublic(method.getModifiers());
            hidden(method, face, open);
            for (String row : FACE) {
                boolean same = row.split(" ")[1].equals(method.getName());
                Checks.due(method + " bears a name of the face", same && !open, false);
            }
            Checks.due("parameters of " + method, method.getParameterCount() <= 7, true);
        }
    }

    private static void hidden(Member member, boolean face, boolean open) {
        int modifiers = member.getModifiers();
        Checks.due(member + " is public", Modifier.isPublic(modifiers), open);
        if (face && !open && !member.isSynthetic()) {
            Checks.due(member + " is private", Modifier.isPrivate(modifiers), true);
        }
    }

    private static void source(String text) {
        String code = text.replaceAll("(?s)/\\*.*?\\*/", "").replaceAll("//[^\n]*", "")
                .replaceAll("\"[^\"\n]*\"", "\"\"");
        for (String barred : BARRED) {
            Matcher matcher = Pattern.compile(barred).matcher(code);
            Checks.due("the class holds " + barred, matcher.find(), false);
        }
        for (int i = 0; i < text.length(); i++) {
            if (text.charAt(i) > 127 || text.charAt(i) == '\t') {
                Checks.wrong("the class holds the sign " + (int) text.charAt(i) + " at " + i);
            }
        }
        int lines = 0;
        for (String line : code.split("\n")) {
            lines = line.matches("    (    )?}") ? 0 : lines + 1;
            if (lines > 70 && line.startsWith("            ")) {
                Checks.wrong("a method is long at " + line);
            }
        }
    }
}
