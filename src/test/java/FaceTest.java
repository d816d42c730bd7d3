import java.lang.reflect.Constructor;
import java.lang.reflect.Field;
import java.lang.reflect.Method;
import java.lang.reflect.Modifier;
import java.nio.file.Files;
import java.nio.file.Path;
import java.util.Arrays;
import java.util.Set;
import java.util.TreeSet;
import java.util.regex.Pattern;
import java.util.stream.Collectors;

/** The public face, and the rules of LANGUAGE.md that can be seen in the class or its source. */
public final class FaceTest {
    private static final String[] METHODS = {
        "int stub(int,int,int)", "int burn(int,int)", "int owe(int,int,int)", "int writ(int,int,int)",
        "int stubOf(int,int)", "int pool(int,int)", "int share()", "int part(int)", "int partAgain(int)",
        "int mould(int,int,int)", "int heir(int,int)", "int end(int)", "int pass(int)", "int houseOf(int,int)",
        "int inherits(int)", "int wouldMelt(int)", "int weight(int)", "int weightAgain(int)", "int ranked(int)",
        "int brightest(int)", "int append(int)", "int run()", "int tell(int)", "int tellHouses()",
        "int character(int)", "int reason(int,boolean)", "int account(int)", "int isBalanced()",
        "double meanWax()", "float snuffedShare()", "int undo()", "int save()", "int restore()"};
    /** What no program under LANGUAGE.md has, as expressions over the source without comments and texts. */
    private static final String[] FORBIDDEN = {
        "\\bpackage\\b", "\\bimport\\s+(?!java\\.util\\.)", "\\bimport\\s+static\\b", "::", "\\bfinally\\b",
        "\\bsynchronized\\b", "\\bassert\\b", "\\bvolatile\\b", "\\bstatic\\s*\\{", "\\bhashCode\\b", "Exact\\(",
        "\\bcatch\\s*\\(\\s*(final\\s+)?(Throwable|Exception|Error|NullPointer|ArrayIndex|ClassCast|NegativeArray|ArrayStore)",
        "\\bMath\\.random\\b", "\\bThread\\b", "\\bSystem\\.(?!arraycopy\\b)", "while\\s*\\(true\\)", "for\\s*\\(;;"};
    private static final int LONGEST_METHOD = 65;

    public static void main(String[] args) throws Exception {
        constants();
        members();
        nestedClasses();
        source();
        Due.end("FaceTest");
    }

    private static void constants() throws Exception {
        String[] names = {"NONE", "BAD", "FULL", "REFUSED", "NOTHING"};
        for (int i = 0; i < names.length; i++) {
            Field field = CandleStatute.class.getField(names[i]);
            Due.due(names[i], -1011 - i, field.getInt(null));
            Due.due(names[i], Modifier.PUBLIC | Modifier.STATIC | Modifier.FINAL, field.getModifiers());
        }
        Due.due("public fields", names.length, CandleStatute.class.getFields().length);
    }

    private static void members() {
        Class<?> face = CandleStatute.class;
        Due.due("class", Modifier.PUBLIC | Modifier.FINAL, face.getModifiers());
        Due.due("constructors", 1, face.getDeclaredConstructors().length);
        Constructor<?> constructor = face.getDeclaredConstructors()[0];
        Due.due("constructor", Modifier.PUBLIC, constructor.getModifiers());
        Due.due("constructor", 0, constructor.getParameterCount());
        Set<String> publicOnes = new TreeSet<>();
        Set<String> publicNames = new TreeSet<>();
        for (Method method : face.getDeclaredMethods()) {
            if (Modifier.isPublic(method.getModifiers())) {
                Due.due(method.getName(), Modifier.PUBLIC, method.getModifiers());
                publicOnes.add(shown(method));
                publicNames.add(method.getName());
            }
        }
        Due.dueText("public methods", new TreeSet<>(Arrays.asList(METHODS)).toString(), publicOnes.toString());
        for (Method method : face.getDeclaredMethods()) {
            if (!Modifier.isPublic(method.getModifiers())) {
                Due.due(method.getName() + " is private", 1, Modifier.isPrivate(method.getModifiers()) ? 1 : 0);
                Due.due(method.getName() + " is a public name", 0, publicNames.contains(method.getName()) ? 1 : 0);
            }
        }
        for (Field field : face.getDeclaredFields()) {
            int modifiers = field.getModifiers();
            Due.due(field.getName() + " is open", 0,
                    Modifier.isPrivate(modifiers) || Modifier.isPublic(modifiers) ? 0 : 1);
            Due.due(field.getName() + " is static and not final", 0,
                    Modifier.isStatic(modifiers) && !Modifier.isFinal(modifiers) ? 1 : 0);
        }
    }

    private static String shown(Method method) {
        return method.getReturnType().getName() + " " + method.getName()
                + Arrays.stream(method.getParameterTypes()).map(Class::getName).collect(Collectors.joining(",", "(", ")"));
    }

    private static void nestedClasses() {
        Class<?>[] nested = CandleStatute.class.getDeclaredClasses();
        Due.due("some twelve classes", 1, nested.length <= 12 ? 1 : 0);
        for (Class<?> one : nested) {
            Due.due(one.getName() + " is static", 1, Modifier.isStatic(one.getModifiers()) ? 1 : 0);
            Due.due(one.getName() + " is open", 0,
                    one.getModifiers() & (Modifier.PUBLIC | Modifier.PROTECTED));
            for (Method method : one.getDeclaredMethods()) {
                Due.due(method.getName() + " has too many parameters", 0, method.getParameterCount() > 7 ? 1 : 0);
            }
        }
    }

    private static void source() throws Exception {
        String source = Files.readString(Path.of("src/main/java/CandleStatute.java"));
        String code = withoutCommentsAndTexts(source);
        for (String forbidden : FORBIDDEN) {
            Due.due(forbidden + " in the source", 0, Pattern.compile(forbidden).matcher(code).results().count());
        }
        Due.due("signs other than ASCII", 0, source.chars().filter(sign -> sign > 126).count());
        methodLengths(source.split("\n"));
    }

    private static String withoutCommentsAndTexts(String source) {
        return source.replaceAll("\"(\\\\.|[^\"\\\\])*\"|'(\\\\.|[^'\\\\])'", "0")
                .replaceAll("(?s)/\\*.*?\\*/", "").replaceAll("//[^\n]*", "");
    }

    private static void methodLengths(String[] lines) {
        int start = 0;
        for (int i = 0; i < lines.length; i++) {
            if (lines[i].matches("( {4}| {8})[a-zA-Z].*\\) \\{")) {
                start = i;
            }
            if (lines[i].matches("( {4}| {8})\\}") && start > 0) {
                Due.due("too long, up to line " + (i + 1), 0, i - start > LONGEST_METHOD ? 1 : 0);
            }
        }
    }
}
