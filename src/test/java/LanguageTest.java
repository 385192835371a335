import java.io.IOException;
import java.lang.reflect.Constructor;
import java.lang.reflect.Field;
import java.lang.reflect.Method;
import java.lang.reflect.Modifier;
import java.nio.file.Files;
import java.nio.file.Path;
import java.util.ArrayList;
import java.util.Arrays;
import java.util.List;
import java.util.Set;
import java.util.TreeSet;
import java.util.regex.Matcher;
import java.util.regex.Pattern;

/** The face of the class, and the rules of LANGUAGE.md that a test can see. */
public final class LanguageTest {
    private static final Check CHECK = new Check("LanguageTest");
    private static final String[] FACE = {
        "int feed(int, int, int, int, int)", "int end(int)", "int orders(int)", "int fault(int)",
        "boolean market(int, int, int)", "int ship(int, int, int, int)", "int letter(int, int)",
        "int subscribe(int, int)", "boolean transfer(int, int, int)", "int shares(int)",
        "int load(int, int, int)", "int unload(int)", "int sail(int, int)", "int months(int)",
        "int store(int, int)", "int price(int, int)", "int tell(int, int)", "int factor(int, int)",
        "int known(int, int)", "int noted(int, int, int)", "long sum(int, int)", "int divide(int, int)",
        "int got(int, int)", "int carried(int)", "int count(int)", "boolean image(int)", "boolean again(int)",
    };

    private static String signature(Method method) {
        List<String> types = new ArrayList<>();
        for (Class<?> type : method.getParameterTypes()) {
            types.add(type.getName());
        }
        return method.getReturnType().getName() + " " + method.getName() + "(" + String.join(", ", types) + ")";
    }

    private static void face() {
        Class<?> type = VoyageCompany.class;
        CHECK.due("public and final", type.getModifiers(), Modifier.PUBLIC | Modifier.FINAL);
        Set<String> open = new TreeSet<>();
        Set<String> names = new TreeSet<>();
        for (Method method : type.getDeclaredMethods()) {
            if (!Modifier.isPrivate(method.getModifiers()) && !method.isSynthetic()) {
                open.add(signature(method));
                names.add(method.getName());
            }
        }
        CHECK.due("the face's methods, " + open, open.equals(new TreeSet<>(Arrays.asList(FACE))), true);
        for (Method method : type.getDeclaredMethods()) {
            if (Modifier.isPrivate(method.getModifiers())) {
                CHECK.due("private method named as a public one: " + method.getName(), names.contains(method.getName()), false);
            }
        }
        for (Field field : type.getDeclaredFields()) {
            boolean mayBeOpen = field.getName().equals("NONE");
            CHECK.due("field " + field.getName() + " is private", Modifier.isPrivate(field.getModifiers()), !mayBeOpen);
        }
        Constructor<?>[] constructors = type.getDeclaredConstructors();
        CHECK.due("constructors", constructors.length, 1);
        CHECK.due("the constructor is public", Modifier.isPublic(constructors[0].getModifiers()), true);
    }

    private static boolean isOfFace(String name) {
        for (String signature : FACE) {
            if (signature.contains(" " + name + "(")) {
                return true;
            }
        }
        return false;
    }

    private static void classesInside() {
        Class<?>[] inside = VoyageCompany.class.getDeclaredClasses();
        CHECK.due("at most twelve classes", inside.length + 1 <= 12, true);
        for (Class<?> type : inside) {
            CHECK.due(type + " is static", Modifier.isStatic(type.getModifiers()), true);
            CHECK.due(type + " is private", Modifier.isPrivate(type.getModifiers()), true);
            int fields = 0;
            for (Field field : type.getDeclaredFields()) {
                boolean constant = Modifier.isStatic(field.getModifiers());
                CHECK.due(field + " is final if static", !constant || Modifier.isFinal(field.getModifiers()), true);
                fields += constant ? 0 : 1;
            }
            CHECK.due(type + " has at most twenty fields", fields <= 20, true);
            for (Method method : type.getDeclaredMethods()) {
                CHECK.due(method + " takes at most seven", method.getParameterCount() <= 7, true);
                boolean hidden = Modifier.isPrivate(method.getModifiers());
                CHECK.due(method + " is private and named as a public one", hidden && isOfFace(method.getName()), false);
            }
        }
    }

    private static String withoutCommentsAndTexts(String source) {
        return source.replaceAll("(?s)/\\*.*?\\*/", " ").replaceAll("//[^\n]*", " ")
                .replaceAll("\"[^\"\n]*\"", "\"\"").replaceAll("'[^']'", "' '");
    }

    private static void words(String code) {
        String[] forbidden = {
            "throw", "try", "catch", "finally", "synchronized", "assert", "import", "package", "transient", "volatile",
            "native", "strictfp", "var", "yield", "protected", "hashCode", "toString", "Thread", "Object", "System\\.(?!arraycopy)",
            "\\w+Exact", "float", "double", "static\\s*\\{", "->", "::", "@\\w+", "\\w+\\[\\]\\[\\]\\[\\]",
        };
        for (String word : forbidden) {
            String pattern = Character.isLetter(word.charAt(0)) ? "\\b" + word : word;
            if (word.matches("[a-zA-Z]+")) {
                pattern += "\\b";
            }
            Matcher found = Pattern.compile(pattern).matcher(code);
            CHECK.due("the code has '" + word + "'", found.find(), false);
        }
    }

    private static void shortMethods(String source) {
        int begun = 0;
        int line = 0;
        for (String text : source.split("\n")) {
            line++;
            if (text.matches(" {4}( {4})?[a-zA-Z].*\\) \\{")) {
                begun = line;
            }
            if (text.matches(" {4}( {4})?\\}") && begun > 0) {
                CHECK.due("a method of over sixty lines ends in line " + line, line - begun > 60, false);
                begun = 0;
            }
        }
    }

    public static void main(String[] args) throws IOException {
        String source = Files.readString(Path.of("src/main/java/VoyageCompany.java"));
        face();
        classesInside();
        words(withoutCommentsAndTexts(source));
        shortMethods(source);
        CHECK.finish();
    }
}
