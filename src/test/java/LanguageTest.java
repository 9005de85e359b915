import java.io.IOException;
import java.lang.reflect.Constructor;
import java.lang.reflect.Field;
import java.lang.reflect.Method;
import java.lang.reflect.Modifier;
import java.nio.file.Files;
import java.nio.file.Path;
import java.util.HashSet;
import java.util.Set;
import java.util.TreeSet;
import java.util.regex.Matcher;
import java.util.regex.Pattern;

/** The document's face, and the rules of LANGUAGE.md that can be seen by reflection or by words. */
public final class LanguageTest {
    private static final String SOURCE = "src/main/java/GoneIntoItsTunnel.java";
    private static final String FACE = "letter 1, hem 0, inch 2, turn 3, inches 1, end 2, tie 1, sew 0, set 2, pull 2, "
            + "bunch 1, anew 0, wash 1, of 2, out 2, soonest 0, better 1, inIn 2, lost 1, still 0, keep 1, deep 2, "
            + "stops 2, care 1, holdsUp 1, middle 0, cutOff 0, bestPin 1, worst 0, which 2, row 1, judge 1, lots 3, "
            + "image 0, on 0, count 1";
    private static final Set<String> TYPES = Set.of("int", "long", "short", "byte", "char", "boolean", "int[]",
            "long[]", "char[]", "byte[]", "short[]", "boolean[]", "String");

    public static void main(String[] args) throws IOException {
        face();
        classesInside();
        words();
        methodsStayShort();
        Due.close();
    }

    private static void face() {
        Class<?> c = GoneIntoItsTunnel.class;
        Due.is("public final", c.getModifiers() & (Modifier.PUBLIC | Modifier.FINAL),
                Modifier.PUBLIC | Modifier.FINAL);
        Set<String> due = new TreeSet<>(Set.of(FACE.split(", ")));
        Set<String> got = new TreeSet<>();
        for (Method method : c.getDeclaredMethods()) {
            if (!Modifier.isPrivate(method.getModifiers())) {
                got.add(method.getName() + " " + method.getParameterCount());
                Due.is(method.getName() + " is public and not static",
                        method.getModifiers() & (Modifier.PUBLIC | Modifier.STATIC), Modifier.PUBLIC);
                Due.same(method.getName() + "'s answer", method.getReturnType().getName(), "int");
                for (Class<?> type : method.getParameterTypes()) {
                    Due.same(method.getName() + "'s parameter", type.getName(), "int");
                }
            }
        }
        Due.same("the face", got.toString(), due.toString());
        for (Constructor<?> constructor : c.getDeclaredConstructors()) {
            Due.is("the constructor's parameters", constructor.getParameterCount(), 0);
            Due.is("the constructor is public", constructor.getModifiers() & Modifier.PUBLIC, Modifier.PUBLIC);
        }
        for (Field field : c.getDeclaredFields()) {
            Due.is(field.getName() + " is private", field.getModifiers() & Modifier.PRIVATE, Modifier.PRIVATE);
        }
    }

    private static void classesInside() {
        Set<String> faceNames = new HashSet<>();
        for (String method : FACE.split(", ")) {
            faceNames.add(method.substring(0, method.indexOf(' ')));
        }
        Class<?>[] inside = GoneIntoItsTunnel.class.getDeclaredClasses();
        Due.is("some twelve classes", Math.max(12, inside.length + 1), 12);
        for (Class<?> c : inside) {
            Due.is(c.getName() + " is static", c.getModifiers() & Modifier.STATIC, Modifier.STATIC);
            Due.is(c.getName() + " is not public", c.getModifiers() & (Modifier.PUBLIC | Modifier.PROTECTED), 0);
            for (Method method : c.getDeclaredMethods()) {
                Due.is(method.getName() + " bears no public name", faceNames.contains(method.getName()) ? 1 : 0, 0);
            }
            fields(c);
        }
        fields(GoneIntoItsTunnel.class);
    }

    private static void fields(Class<?> c) {
        int own = 0;
        for (Field field : c.getDeclaredFields()) {
            boolean isStatic = Modifier.isStatic(field.getModifiers());
            own += isStatic ? 0 : 1;
            Due.is(field.getName() + ", if static, is final",
                    isStatic && !Modifier.isFinal(field.getModifiers()) ? 1 : 0, 0);
            Class<?> type = field.getType();
            boolean known = TYPES.contains(type.getSimpleName()) || type.getDeclaringClass() == GoneIntoItsTunnel.class;
            Due.is(field.getName() + " is of a type that may be", known ? 1 : 0, 1);
        }
        Due.is("fields of " + c.getName(), Math.max(20, own), 20);
    }

    private static String source() throws IOException {
        return Files.readString(Path.of(SOURCE));
    }

    private static String code() throws IOException {
        return source().replaceAll("(?s)/\\*.*?\\*/", "").replaceAll("//.*", "");
    }

    private static void words() throws IOException {
        for (char sign : source().toCharArray()) {
            Due.is("sign " + (int) sign, sign == '\n' || sign >= 32 && sign < 127 ? 1 : 0, 1);
        }
        String code = code();
        String[] no = {"throw", "throws", "try", "catch", "finally", "synchronized", "assert", "import", "package",
            "native", "volatile", "transient", "Object", "Class", "Thread", "Random", "hashCode", "toString",
            "equals", "Integer", "Long", "var", "yield", "double", "float", "protected", "goto"};
        for (String word : no) {
            Matcher matcher = Pattern.compile("\\b" + word + "\\b").matcher(code);
            Due.is("the word " + word, matcher.find() ? 1 : 0, 0);
        }
        Due.is("System", Pattern.compile("System(?!\\.arraycopy)").matcher(code).find() ? 1 : 0, 0);
        Due.is("->", code.indexOf("->"), -1);
        Due.is("::", code.indexOf("::"), -1);
        Due.is("@", code.indexOf('@'), -1);
        // What a call makes is counted: objects are made in constructors and in fields alone.
        Matcher made = Pattern.compile("(?m)^(.*)\\bnew \\w+.*$").matcher(code);
        while (made.find()) {
            boolean first = made.group(1).matches("\\s+(private final [\\w\\[\\]]+ )?\\w+ = ");
            Due.is("made where it should be: " + made.group().trim(), first ? 1 : 0, 1);
        }
    }

    private static void methodsStayShort() throws IOException {
        Pattern head = Pattern.compile("( +)(public |private |static )*[\\w\\[\\]]+ \\w+\\((.*)\\) \\{");
        String[] lines = code().split("\n");
        int methods = 0;
        for (int from = 0; from < lines.length; from++) {
            Matcher matcher = head.matcher(lines[from]);
            if (matcher.matches() && matcher.group(1).length() <= 8 && !lines[from].contains(" else ")) {
                methods++;
                Due.is("parameters of " + lines[from].trim(), Math.max(7, matcher.group(3).split(",").length), 7);
                int to = from;
                while (to < lines.length && !lines[to].equals(matcher.group(1) + "}")) {
                    to++;
                }
                Due.is("lines of " + lines[from].trim(), Math.max(60, to - from + 1), 60);
            }
        }
        Due.is("methods were seen", methods > 36 ? 1 : 0, 1);
    }
}
