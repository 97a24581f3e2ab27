import java.lang.reflect.Constructor;
import java.lang.reflect.Field;
import java.lang.reflect.Method;
import java.lang.reflect.Modifier;
import java.nio.file.Files;
import java.nio.file.Path;
import java.util.ArrayList;
import java.util.Arrays;
import java.util.List;
import java.util.Set;
import java.util.TreeSet;
import java.util.regex.Matcher;
import java.util.regex.Pattern;

/** The document's face, and those rules of LANGUAGE.md that can be seen from outside. */
public final class LanguageTest {
    private static final String[] FACE = {
        "int go(int)", "int folder(int, int, boolean)", "boolean move(int, int)", "int file(int, int, int)",
        "int copy(int, int)", "int link(int, int)", "boolean unlink(int)", "int of(int)", "int write(int, int)",
        "boolean hole(int, int)", "boolean share(int, int, int, int)", "boolean cut(int, int)",
        "int block(int, int)", "int sum(int, int, int)", "int named(int, int, int)", "int snapshot()",
        "int drop(int)", "int alone(int)", "int mark()", "int grew(int, int, int)", "int freed(int)",
        "int both(int, int)", "int plan(int, int)", "int planned(int, int, int)", "int largest(int, int)",
        "boolean holds(int)", "int full(int)", "int told(int, int)", "int count(int)"
    };
    private static final Pattern BODY =
        Pattern.compile("(?m)^( {4}| {8})(?! )[^\\n=;]*\\) \\{\\n(?s:(.*?))\\n\\1\\}$");
    private static final String[] RULED_OUT = {
        "\\bthrow\\b", "\\btry\\b", "\\bcatch\\b", "\\bsynchronized\\b", "\\bassert\\b", "->", "::",
        "\\bimport\\b", "\\bpackage\\b", "\\bjava\\.", "\\bThread\\b", "\\bSystem\\.(?!arraycopy\\b)",
        "\\bMath\\.random\\b", "Exact\\b", "\\bequals\\b", "\\bhashCode\\b", "\\btoString\\b",
        "\\bstatic\\s*\\{", "\\bwhile\\s*\\(\\s*true\\b", "\\bfor\\s*\\([^;]*;\\s*;", "[^\\x00-\\x7f]"
    };

    public static void main(String[] args) throws Exception {
        methodsAreTheFace();
        fieldsAndConstructorsAreTheFace();
        nestedClassesKeepTheRules();
        methodsTakeFewParameters();
        Due.is("the source's path is the argument", args.length, 1);
        sourceKeepsTheRules(Files.readString(Path.of(args[0])));
        Due.end();
    }

    private static String signature(Method method) {
        String parameters = Arrays.toString(method.getParameterTypes());
        return method.getReturnType() + " " + method.getName() + "("
            + parameters.substring(1, parameters.length() - 1) + ")";
    }

    private static void methodsAreTheFace() {
        Set<String> open = new TreeSet<>();
        Set<String> openNames = new TreeSet<>();
        for (Method method : RoomGone.class.getDeclaredMethods()) {
            if (!Modifier.isPrivate(method.getModifiers())) {
                Due.yes(method + " is public", Modifier.isPublic(method.getModifiers()));
                Due.no(method + " is static", Modifier.isStatic(method.getModifiers()));
                open.add(signature(method));
                openNames.add(method.getName());
            }
        }
        Due.yes("the methods are the face: " + open, open.equals(new TreeSet<>(Arrays.asList(FACE))));
        for (Class<?> type : RoomGone.class.getDeclaredClasses()) {
            for (Method method : type.getDeclaredMethods()) {
                Due.no(method + " bears a public name", openNames.contains(method.getName()));
            }
        }
        for (Method method : RoomGone.class.getDeclaredMethods()) {
            boolean hidden = Modifier.isPrivate(method.getModifiers());
            Due.no(method + " bears a public name", hidden && openNames.contains(method.getName()));
        }
    }

    private static void fieldsAndConstructorsAreTheFace() {
        int type = RoomGone.class.getModifiers();
        Due.yes("public and final", Modifier.isPublic(type) && Modifier.isFinal(type));
        Constructor<?>[] made = RoomGone.class.getDeclaredConstructors();
        Due.is("constructors", made.length, 1);
        Due.is("its parameters", made[0].getParameterCount(), 0);
        Due.yes("it is public", Modifier.isPublic(made[0].getModifiers()));
        for (Field field : RoomGone.class.getDeclaredFields()) {
            boolean open = field.getName().equals("NONE");
            Due.yes(field.toString(), open ? Modifier.isPublic(field.getModifiers())
                : Modifier.isPrivate(field.getModifiers()));
        }
    }

    private static void nestedClassesKeepTheRules() {
        Class<?>[] nested = RoomGone.class.getDeclaredClasses();
        Due.yes("twelve classes at most", nested.length < 12);
        for (Class<?> type : nested) {
            Due.yes(type + " is static", Modifier.isStatic(type.getModifiers()));
            Due.no(type + " is public", Modifier.isPublic(type.getModifiers()));
            Due.no(type + " is protected", Modifier.isProtected(type.getModifiers()));
            int own = 0;
            for (Field field : type.getDeclaredFields()) {
                boolean fixed = Modifier.isStatic(field.getModifiers());
                Due.yes(field + " is final if static", !fixed || Modifier.isFinal(field.getModifiers()));
                own += fixed ? 0 : 1;
            }
            Due.yes(type + " has twenty fields at most", own <= 20);
        }
    }

    private static void methodsTakeFewParameters() {
        List<Class<?>> types = new ArrayList<>(Arrays.asList(RoomGone.class.getDeclaredClasses()));
        types.add(RoomGone.class);
        for (Class<?> type : types) {
            for (Method method : type.getDeclaredMethods()) {
                Due.yes(method + " takes seven at most", method.getParameterCount() <= 7);
            }
        }
    }

    /** A method's last line is the next brace that stands as far in as its first line. */
    private static void bodiesAreShort(String source) {
        Matcher body = BODY.matcher(source);
        int found = 0;
        while (body.find()) {
            found++;
            Due.yes("sixty lines at most: " + body.group(2), body.group(2).lines().count() <= 60);
        }
        Due.yes("methods are found in the source: " + found, found > FACE.length);
    }

    private static void sourceKeepsTheRules(String source) {
        for (String pattern : RULED_OUT) {
            Due.no("the source has " + pattern, Pattern.compile(pattern).matcher(source).find());
        }
        bodiesAreShort(source);
    }
}
