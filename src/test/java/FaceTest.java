import java.lang.reflect.Constructor;
import java.lang.reflect.Field;
import java.lang.reflect.Method;
import java.lang.reflect.Modifier;
import java.nio.file.Files;
import java.nio.file.Path;
import java.util.Arrays;
import java.util.Set;
import java.util.TreeSet;
import java.util.regex.Pattern;

/** The document's face and no more, and the rules of LANGUAGE.md that can be read off the class or its text. */
public final class FaceTest {
    private static final String[] FACE = {
        "about(int)int", "alter(int,int)int", "disk(int)int", "fall()boolean", "feed(int,int,int,int,int)int",
        "fuse(int)boolean", "hold()int", "keys()boolean", "leaf(int)int", "node(int,int,int)int", "out(int)int",
        "rise()boolean", "sign(int)int", "verify(int)int"
    };
    private static final String[] BARRED = {
        "\\bthrow\\b", "\\btry\\b", "\\bcatch\\b", "\\bsynchronized\\b", "\\bassert\\b", "->", "::", "\\bpackage\\b",
        "\\bnew int\\[\\]\\s*\\{", "Exact\\(", "\\bObject\\b", "static\\s*\\{", "\\bwhile\\s*\\(true\\)", "\\bprotected\\b"
    };

    public static void main(String[] args) throws Exception {
        Check check = new Check();
        check.due("NONE", LeafSigner.NONE, -1);
        check.due("public and final", LeafSigner.class.getModifiers(), Modifier.PUBLIC | Modifier.FINAL);
        methods(check);
        constructors(check);
        fields(check, LeafSigner.class);
        nested(check);
        text(check);
        check.finish();
    }

    private static void methods(Check check) {
        Set<String> open = new TreeSet<>();
        Set<String> names = new TreeSet<>();
        for (Method method : LeafSigner.class.getDeclaredMethods()) {
            if (!Modifier.isPrivate(method.getModifiers())) {
                open.add(signature(method));
                names.add(method.getName());
                check.due(method + " is public alone", method.getModifiers(), Modifier.PUBLIC);
            }
        }
        check.due("the methods: " + open, open.equals(new TreeSet<>(Arrays.asList(FACE))), true);
        for (Method method : LeafSigner.class.getDeclaredMethods()) {
            if (Modifier.isPrivate(method.getModifiers())) {
                check.due(method + " bears a public name", names.contains(method.getName()), false);
            }
        }
    }

    private static String signature(Method method) {
        StringBuilder text = new StringBuilder(method.getName()).append('(');
        for (Class<?> type : method.getParameterTypes()) {
            text.append(text.charAt(text.length() - 1) == '(' ? "" : ",").append(type);
        }
        return text.append(')').append(method.getReturnType()).toString();
    }

    private static void constructors(Check check) throws Exception {
        Constructor<?>[] all = LeafSigner.class.getDeclaredConstructors();
        check.due("constructors", all.length, 1);
        check.due("it takes two numbers", Arrays.equals(all[0].getParameterTypes(), new Class<?>[] {int.class, int.class}), true);
        check.due("it is public", all[0].getModifiers(), Modifier.PUBLIC);
    }

    private static void fields(Check check, Class<?> type) {
        int own = 0;
        for (Field field : type.getDeclaredFields()) {
            int modifiers = field.getModifiers();
            if (Modifier.isStatic(modifiers)) {
                check.due(field + " is final", Modifier.isFinal(modifiers), true);
            } else {
                own++;
            }
            if (type == LeafSigner.class && !field.getName().equals("NONE")) {
                check.due(field + " is private", Modifier.isPrivate(modifiers), true);
            }
        }
        check.due(type + " has at most twenty fields", own <= 20, true);
    }

    private static void nested(Check check) {
        Class<?>[] inside = LeafSigner.class.getDeclaredClasses();
        check.due("at most twelve classes", inside.length < 12, true);
        for (Class<?> type : inside) {
            check.due(type + " is static", Modifier.isStatic(type.getModifiers()), true);
            check.due(type + " is not public", Modifier.isPublic(type.getModifiers()), false);
            fields(check, type);
            for (Method method : type.getDeclaredMethods()) {
                check.due(method + " takes at most seven", method.getParameterCount() <= 7, true);
            }
        }
    }

    private static void text(Check check) throws Exception {
        String source = Files.readString(Path.of("src/main/java/LeafSigner.java"));
        String code = source.replaceAll("(?s)/\\*.*?\\*/", "").replaceAll("//[^\n]*", "");
        for (String barred : BARRED) {
            check.due("the text has " + barred, Pattern.compile(barred).matcher(code).find(), false);
        }
        for (String line : code.split("\n")) {
            if (line.startsWith("import ")) {
                check.due(line, line.equals("import java.util.Arrays;"), true);
            }
        }
    }
}
