import java.io.IOException;
import java.lang.reflect.Constructor;
import java.lang.reflect.Field;
import java.lang.reflect.Method;
import java.lang.reflect.Modifier;
import java.nio.file.Files;
import java.nio.file.Path;
import java.util.Arrays;
import java.util.Set;
import java.util.TreeSet;
import java.util.regex.Matcher;
import java.util.regex.Pattern;

/** The rules of LANGUAGE.md that can be seen from the file, and the public face of DOC.md. */
public final class LanguageTest {
    private static final Path SOURCE = Path.of("src/main/java/TicketScales.java");
    private static final int MOST_LINES = 60;
    private static final int MOST_CLASSES = 12;
    private static final int MOST_FIELDS = 20;

    private static final String[] METHODS = {"setKind 3", "setScale 2", "setBias 1", "setRule 1", "setFee 1", "come 1", "leave 1",
        "weigh 4", "claim 2", "addPrize 5", "removePrize 1", "setPrice 2", "buy 3", "take 1", "restore 1", "undo 0", "append 1",
        "clearText 0", "run 0", "failure 1", "count 1", "kind 2", "customer 2", "prize 2", "read 1", "allowed 3", "guess 3",
        "apartUpTo 1", "bestStep 2", "mixed 4", "would 1", "fairest 0", "soldOut 1", "shop 2"};
    private static final String[] CONSTANTS = {"INVALID_ARGUMENT", "ILLEGAL_STATE", "CAPACITY_EXCEEDED", "NONE"};

    private LanguageTest() {
    }

    public static void main(String[] args) throws IOException {
        face();
        classesInside();
        String text = Files.readString(SOURCE);
        Due.isTrue("signs 1 to 127 alone", text.chars().allMatch(sign -> sign < 128));
        String code = withoutTexts(text);
        words(code);
        lengths(code);
        Due.end();
    }

    private static void face() {
        Class<?> type = TicketScales.class;
        Due.due("public and final", type.getModifiers(), Modifier.PUBLIC | Modifier.FINAL);
        Set<String> methods = new TreeSet<>();
        for (Method method : type.getDeclaredMethods()) {
            if (!Modifier.isPrivate(method.getModifiers())) {
                methods.add(method.getName() + " " + method.getParameterCount());
                Due.isTrue(method + " is public and gives an int", Modifier.isPublic(method.getModifiers()) && method.getReturnType() == int.class);
                Due.isTrue(method + " takes ints", Arrays.stream(method.getParameterTypes()).allMatch(each -> each == int.class));
            }
        }
        Due.isTrue("methods " + methods, methods.equals(new TreeSet<>(Arrays.asList(METHODS))));
        Set<String> constants = new TreeSet<>();
        for (Field field : type.getDeclaredFields()) {
            int modifiers = field.getModifiers();
            if (!Modifier.isPrivate(modifiers)) {
                constants.add(field.getName());
            }
            Due.isTrue(field + " is no static state", !Modifier.isStatic(modifiers) || Modifier.isFinal(modifiers));
        }
        Due.isTrue("constants " + constants, constants.equals(new TreeSet<>(Arrays.asList(CONSTANTS))));
        for (Constructor<?> constructor : type.getDeclaredConstructors()) {
            Due.isTrue(constructor + " is public without arguments", Modifier.isPublic(constructor.getModifiers()) && constructor.getParameterCount() == 0);
        }
    }

    private static void classesInside() {
        Set<String> names = new TreeSet<>();
        for (String method : METHODS) {
            names.add(method.substring(0, method.indexOf(' ')));
        }
        Class<?>[] classes = TicketScales.class.getDeclaredClasses();
        Due.isTrue("not too many classes", classes.length < MOST_CLASSES);
        for (Class<?> type : classes) {
            Due.isTrue(type + " is static", Modifier.isStatic(type.getModifiers()) && !Modifier.isPublic(type.getModifiers()));
            int fields = 0;
            for (Field field : type.getDeclaredFields()) {
                boolean isStatic = Modifier.isStatic(field.getModifiers());
                fields += isStatic ? 0 : 1;
                Due.isTrue(field + " is no static state", !isStatic || Modifier.isFinal(field.getModifiers()));
            }
            Due.isTrue(type + " has not too many fields", fields <= MOST_FIELDS);
            for (Method method : type.getDeclaredMethods()) {
                Due.isTrue(method + " has a name of its own", !names.contains(method.getName()));
            }
        }
    }

    private static String withoutTexts(String text) {
        String none = text.replaceAll("(?s)/\\*.*?\\*/", "").replaceAll("//[^\n]*", "");
        return none.replaceAll("\"[^\"\n]*\"", "TEXT").replaceAll("'[^'\n]*'", "SIGN");
    }

    private static void words(String code) {
        String[] forbidden = {"\\bthrows?\\b", "\\btry\\b", "\\bcatch\\b", "\\bfinally\\b", "\\bsynchronized\\b", "\\bassert\\b",
            "\\bimport\\b", "\\bpackage\\b", "->", "::", "\\bSystem\\b", "\\bThread\\b", "\\bObject\\b", "\\bhashCode\\b", "\\btoString\\b",
            "static\\s*\\{", "\\bprotected\\b", "\\bvolatile\\b", "\\btransient\\b", "\\bnative\\b", "TEXT\\s*\\+", "\\+\\s*TEXT", "Exact\\b",
            "@", "\\bvar\\b", "\\byield\\b", "\\bprivate static (?!final)[a-z\\[\\]]+ \\w+( =|;)"};
        for (String pattern : forbidden) {
            Matcher matcher = Pattern.compile(pattern).matcher(code);
            Due.isTrue("nothing like " + pattern, !matcher.find());
        }
    }

    /** A method begins at a line that ends with ") {" at the depth of members, and ends at its closing brace. */
    private static void lengths(String code) {
        int begun = -1;
        String indent = "";
        String[] lines = code.split("\n");
        Pattern head = Pattern.compile("^(    |        )(?!if|for|while|switch|\\s)[\\w\\[\\] ]+\\([^()]*\\) \\{$");
        for (int i = 0; i < lines.length; i++) {
            Matcher matcher = head.matcher(lines[i]);
            if (begun < 0 && matcher.find()) {
                begun = i;
                indent = matcher.group(1);
            }
            if (begun >= 0 && lines[i].equals(indent + "}")) {
                Due.isTrue("lines of: " + lines[begun].trim(), i - begun < MOST_LINES);
                begun = -1;
            }
        }
    }
}
