import java.io.IOException;
import java.lang.reflect.Constructor;
import java.lang.reflect.Field;
import java.lang.reflect.Method;
import java.lang.reflect.Modifier;
import java.nio.file.Files;
import java.nio.file.Path;
import java.util.Set;
import java.util.TreeSet;
import java.util.regex.Matcher;
import java.util.regex.Pattern;

/** The face is that of the document, and the file keeps to what can be seen of LANGUAGE.md. */
final class FaceTest {
    private static final String INDEX = " IndexOutOfBoundsException";
    private static final String ARGUMENT = " IllegalArgumentException";
    private static final String STATE = " IllegalStateException";

    private static final String[] METHODS = {
        "int setRule(int)" + INDEX + STATE,
        "int set(int,int,int,int)" + INDEX + ARGUMENT + STATE,
        "int strike(int,int)" + INDEX + STATE,
        "int undo(int)" + INDEX + STATE,
        "int come(int)" + INDEX + STATE,
        "int meet()",
        "int letter(int,int)" + INDEX,
        "int author(int,int)" + INDEX,
        "int about(int,int)" + INDEX,
        "int way(int,int,int)" + INDEX,
        "int count(int)" + INDEX,
        "int first()",
        "int page(int)" + INDEX,
        "int goes(int,int)" + INDEX,
        "int lost(int)" + INDEX,
        "int would(int,int,int,int)" + INDEX + ARGUMENT,
        "int undoes(int)" + INDEX,
        "double mean()",
        "long digest()",
    };

    /** What the interface says ahead of which calls. */
    private static final String CALLS_BY_HEADING = "---- writing: setRule set strike undo "
            + "---- messengers: come meet "
            + "---- what is there: letter author about way count first "
            + "---- what will be: page goes lost would undoes mean digest ";

    /** What LANGUAGE.md leaves no room for, by the number of its rule, comments aside. */
    private static final String[] FORBIDDEN = {
        "1 package\\s", "1 \\bprotected\\b", "1 \\bnative\\b",
        "2 ::", "2 (?m)^(?!\\s*(case|default)\\b).*->",
        "4 import (?!java\\.util\\.(ArrayList|Arrays|Iterator|List|NoSuchElementException);)",
        "4 Exact\\(", "4 System\\.(?!arraycopy\\()", "5 \\bstatic\\s*\\{",
        "6 \\bfinally\\b", "6 \\bsynchronized\\b", "6 \\bassert\\b", "6 \\bhashCode\\b",
        "6 \\bextends \\w*(Exception|Error)\\b",
        "6 catch \\((Throwable|Exception|Error|NullPointerException|ArithmeticException"
                + "|ClassCastException|NegativeArraySizeException|ArrayStoreException"
                + "|ArrayIndexOutOfBoundsException)\\b",
        "13 \\b(Thread|Random|Runtime|java\\.io|java\\.nio|java\\.time)\\b",
    };

    private FaceTest() {
    }

    private static String list(Class<?>[] types) {
        StringBuilder text = new StringBuilder();
        for (Class<?> type : types) {
            text.append(text.length() == 0 ? "" : ",").append(type.getSimpleName());
        }
        return text.toString();
    }

    private static String face(Method method) {
        StringBuilder text = new StringBuilder(method.getReturnType().getSimpleName());
        text.append(' ').append(method.getName());
        text.append('(').append(list(method.getParameterTypes())).append(')');
        for (Class<?> thrown : method.getExceptionTypes()) {
            text.append(' ').append(thrown.getSimpleName());
        }
        return text.toString();
    }

    private static void methods(Set<String> names) {
        Set<String> due = new TreeSet<>(Set.of(METHODS));
        Set<String> found = new TreeSet<>();
        for (Method method : TwoScribes.class.getDeclaredMethods()) {
            if (!Modifier.isPrivate(method.getModifiers()) && !method.isSynthetic()) {
                found.add(face(method));
                names.add(method.getName());
                Check.same(method + " is public, and not static",
                        method.getModifiers() & ~Modifier.FINAL, Modifier.PUBLIC);
            }
        }
        Check.same("methods of the face", found.toString(), due.toString());
    }

    private static void privates(Class<?> type, Set<String> names) {
        for (Method method : type.getDeclaredMethods()) {
            if (Modifier.isPrivate(method.getModifiers())) {
                Check.same(method + " bears a name of the face",
                        names.contains(method.getName()) ? 1 : 0, 0);
            }
        }
        for (Field field : type.getDeclaredFields()) {
            int kind = field.getModifiers();
            Check.same(field + " is final if static",
                    Modifier.isStatic(kind) && !Modifier.isFinal(kind) ? 1 : 0, 0);
        }
    }

    private static void membersAreHidden(Class<?> type) {
        for (Field field : type.getDeclaredFields()) {
            Check.same(field + " is private",
                    Modifier.isPrivate(field.getModifiers()) || field.isSynthetic() ? 1 : 0, 1);
        }
        for (Class<?> inside : type.getDeclaredClasses()) {
            int kind = inside.getModifiers();
            Check.same(inside + " is private or package-visible",
                    Modifier.isPublic(kind) || Modifier.isProtected(kind) ? 0 : 1, 1);
        }
    }

    private static void face() {
        Class<?> type = TwoScribes.class;
        Check.same("public and final", type.getModifiers(), Modifier.PUBLIC | Modifier.FINAL);
        Check.same("no interface", type.getInterfaces().length, 0);
        Constructor<?>[] makers = type.getDeclaredConstructors();
        Check.same("one constructor", makers.length, 1);
        Check.same("of no parameter", makers[0].getParameterCount(), 0);
        Check.same("a public one", makers[0].getModifiers(), Modifier.PUBLIC);
        Set<String> names = new TreeSet<>();
        methods(names);
        membersAreHidden(type);
        privates(type, names);
        for (Class<?> inside : type.getDeclaredClasses()) {
            privates(inside, names);
        }
    }

    private static void headings(String text) {
        StringBuilder found = new StringBuilder();
        Matcher line = Pattern.compile("// (----.*)|public (?:int|long|double) (\\w+)\\(")
                .matcher(text.substring(0, text.indexOf("public long digest(") + 20));
        while (line.find()) {
            found.append(line.group(1) != null ? line.group(1) + ": " : line.group(2) + " ");
        }
        Check.same("what the interface says", found.toString(), CALLS_BY_HEADING);
    }

    private static void file(String path) throws IOException {
        String text = Files.readString(Path.of(path));
        String code = text.replaceAll("(?s)/\\*.*?\\*/", "").replaceAll("//[^\n]*", "");
        headings(text);
        for (String rule : FORBIDDEN) {
            String form = rule.substring(rule.indexOf(' ') + 1);
            Matcher found = Pattern.compile(form).matcher(code);
            Check.same("the file against the rule " + rule, found.find() ? found.group() : "", "");
        }
        for (int i = 0; i < text.length(); i++) {
            if (text.charAt(i) > 126) {
                Check.tell("the file has the sign " + (int) text.charAt(i) + " at " + i);
            }
        }
    }

    public static void main(String[] args) throws IOException {
        face();
        file(args.length > 0 ? args[0] : "src/main/java/TwoScribes.java");
        Check.end();
    }
}
