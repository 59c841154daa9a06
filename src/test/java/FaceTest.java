import java.io.IOException;
import java.lang.reflect.Constructor;
import java.lang.reflect.Field;
import java.lang.reflect.Method;
import java.lang.reflect.Modifier;
import java.nio.file.Files;
import java.nio.file.Path;
import java.util.Set;
import java.util.TreeSet;
import java.util.regex.Matcher;
import java.util.regex.Pattern;

/** The public face, and those rules of LANGUAGE.md that can be seen in the text or the compiled class. */
public final class FaceTest {
    private static final Path SOURCE = Path.of("src/main/java/TaskHouse.java");
    private static final Check check = new Check("FaceTest");

    private static final String[] FACE = {
        "int feed(int, int, int, int, int)", "int end(int)", "int business()", "int fault(int)",
        "int person(int, int)", "boolean deputy(int, int)", "boolean away(int, boolean)", "int stands(int)",
        "boolean hour(int)", "int run()", "int runOf(int, int)", "int task(int, int)", "int may(int, int)",
        "int claim(int, int)", "boolean giveBack(int)", "int done(int, int, int)", "int list(int)",
        "int listed(int, int)", "int offer(int)", "int late()", "int personOf(int, int)", "int due(int, int)",
        "int about(int)"};

    public static void main(String[] args) throws IOException {
        face();
        insides();
        words();
        sizes();
        check.finish();
    }

    private static String form(Method method) {
        StringBuilder all = new StringBuilder(method.getReturnType() + " " + method.getName() + "(");
        for (Class<?> type : method.getParameterTypes()) {
            all.append(all.charAt(all.length() - 1) == '(' ? "" : ", ").append(type);
        }
        return all.append(")").toString();
    }

    private static void face() {
        Class<?> it = TaskHouse.class;
        check.same("public and final", it.getModifiers(), Modifier.PUBLIC | Modifier.FINAL);
        Set<String> want = new TreeSet<>(Set.of(FACE));
        Set<String> got = new TreeSet<>();
        Set<String> names = new TreeSet<>();
        for (Method method : it.getDeclaredMethods()) {
            if (!Modifier.isPrivate(method.getModifiers())) {
                check.same(form(method) + " is public", method.getModifiers(), Modifier.PUBLIC);
                got.add(form(method));
                names.add(method.getName());
            }
        }
        check.same("the methods are " + got, got.equals(want), true);
        for (Method method : it.getDeclaredMethods()) {
            boolean hidden = Modifier.isPrivate(method.getModifiers());
            check.same(form(method) + " bears a public name", hidden && names.contains(method.getName()), false);
        }
        Constructor<?>[] made = it.getDeclaredConstructors();
        check.same("constructors", made.length, 1);
        check.same("the constructor's modifiers", made[0].getModifiers(), Modifier.PUBLIC);
        check.same("the constructor's parameters", made[0].getParameterCount(), 0);
        for (Field field : it.getDeclaredFields()) {
            boolean constant = field.getName().equals("NONE");
            int publicConstant = Modifier.PUBLIC | Modifier.STATIC | Modifier.FINAL;
            check.same(field.getName() + " is hidden, or NONE",
                constant ? field.getModifiers() == publicConstant : Modifier.isPrivate(field.getModifiers()), true);
        }
    }

    private static void insides() {
        Class<?>[] all = TaskHouse.class.getDeclaredClasses();
        check.same("at most some twelve classes", all.length <= 12, true);
        for (Class<?> it : all) {
            check.same(it + " is static", Modifier.isStatic(it.getModifiers()), true);
            check.same(it + " isn't public", Modifier.isPublic(it.getModifiers()), false);
            int fields = 0;
            for (Field field : it.getDeclaredFields()) {
                if (Modifier.isStatic(field.getModifiers())) {
                    check.same(field + " is final", Modifier.isFinal(field.getModifiers()), true);
                } else {
                    fields++;
                }
            }
            check.same(it + " has some twenty fields at most", fields <= 20, true);
            for (Method method : it.getDeclaredMethods()) {
                check.same(method + " takes at most seven", method.getParameterCount() <= 7, true);
                for (String form : FACE) {
                    check.same(method + " bears a public name", form.contains(" " + method.getName() + "("), false);
                }
            }
        }
    }

    /** The source without its comments and texts. */
    private static String bare() throws IOException {
        return Files.readString(SOURCE)
            .replaceAll("(?s)/\\*.*?\\*/", "")
            .replaceAll("//[^\n]*", "")
            .replaceAll("\"[^\"]*\"", "\"\"");
    }

    private static void words() throws IOException {
        String source = bare();
        String[] banned = {"throw", "throws", "try", "catch", "finally", "synchronized", "assert", "import",
            "package", "protected", "Random", "System\\.(?!arraycopy)\\w+", "Thread", "\\w+Exact", "hashCode", "toString",
            "native", "volatile", "transient", "yield", "var"};
        for (String word : banned) {
            check.same("'" + word + "' in the source",
                Pattern.compile("\\b(" + word + ")\\b").matcher(source).find(), false);
        }
        check.same("a lambda or an arrow", source.contains("->"), false);
        check.same("a method reference", source.contains("::"), false);
        check.same("a static block", Pattern.compile("static\\s*\\{").matcher(source).find(), false);
    }

    private static void sizes() throws IOException {
        Matcher method = Pattern.compile("(?m)^( +)(?:public |private |static |final )*[\\w\\[\\]]+ ?\\w*\\([^)]*\\) \\{\n")
            .matcher(bare());
        int found = 0;
        while (method.find()) {
            String rest = bare().substring(method.end());
            int close = rest.indexOf("\n" + method.group(1) + "}\n");
            long lines = rest.substring(0, Math.max(close, 0)).lines().count();
            check.same(method.group().trim() + " has " + lines + " lines", lines <= 60, true);
            found++;
        }
        check.same("methods were found", found > 80, true);
    }
}
