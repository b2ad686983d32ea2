import java.io.IOException;
import java.lang.reflect.Field;
import java.lang.reflect.Method;
import java.lang.reflect.Modifier;
import java.nio.file.Files;
import java.nio.file.Path;
import java.util.Arrays;
import java.util.Set;
import java.util.TreeSet;
import java.util.regex.Matcher;
import java.util.regex.Pattern;

/** The face that the document asks for, and what of LANGUAGE.md can be seen in the source. */
public final class LanguageTest {
    private static final Checks checks = new Checks();
    private static final String FACE = "log 5,calm 3,strike 4,turn 3,set 2,engrave 2,renew 2,type 1,clearText 0,"
        + "logAll 0,undo 0,keep 0,restore 0,rose 3,hours 4,share 4,dealt 4,quarter 3,excess 3,unlike 3,seasonOf 2,"
        + "plate 3,petal 4,reason 2,nextPlate 0,count 1";
    private static final String[] BARRED = {
        "import", "package", "throw", "throws", "try", "catch", "finally", "synchronized", "assert", "instanceof",
        "record", "enum", "->", "::", "@", "\"", "equals", "hashCode", "toString", "Object", "String", "List",
        "Integer", "double", "float", "native", "volatile", "transient", "protected", "var", "goto"};

    public static void main(String[] args) throws IOException {
        constants();
        methods();
        fields();
        insideClasses();
        String source = withoutCommentsAndCharacters(Files.readString(Path.of("src/main/java/WindRoses.java")));
        barredWords(source);
        library(source);
        madeInConstructorsAlone(source);
        methodLengths(source);
        checks.end("LanguageTest");
    }

    private static void constants() {
        checks.due("UNKNOWN", WindRoses.UNKNOWN, -1);
        checks.due("BAD_VALUE", WindRoses.BAD_VALUE, -2);
        checks.due("FULL", WindRoses.FULL, -3);
        checks.due("NOT_POSSIBLE", WindRoses.NOT_POSSIBLE, -4);
        checks.due("NONE", WindRoses.NONE, -5);
    }

    private static void methods() {
        Set<String> face = new TreeSet<>(Arrays.asList(FACE.split(",")));
        Set<String> names = new TreeSet<>();
        for (String method : face) {
            names.add(method.split(" ")[0]);
        }
        Set<String> found = new TreeSet<>();
        for (Method method : WindRoses.class.getDeclaredMethods()) {
            if (Modifier.isPublic(method.getModifiers())) {
                found.add(method.getName() + " " + method.getParameterCount());
                checks.due(method + " is static", Modifier.isStatic(method.getModifiers()) ? 1 : 0, 0);
                checks.due(method + " tells an int", method.getReturnType() == int.class ? 1 : 0, 1);
            } else {
                checks.due(method + " is private", Modifier.isPrivate(method.getModifiers()) ? 1 : 0, 1);
                checks.due(method + " has a public name", names.contains(method.getName()) ? 1 : 0, 0);
            }
        }
        checks.due("the face is " + found, found.equals(face) ? 1 : 0, 1);
        checks.due("constructors", WindRoses.class.getDeclaredConstructors().length, 1);
        checks.due("the class is final", Modifier.isFinal(WindRoses.class.getModifiers()) ? 1 : 0, 1);
    }

    private static void fields() {
        int open = 0;
        for (Field field : WindRoses.class.getDeclaredFields()) {
            open += Modifier.isPrivate(field.getModifiers()) ? 0 : 1;
            if (Modifier.isStatic(field.getModifiers())) {
                checks.due(field + " is final", Modifier.isFinal(field.getModifiers()) ? 1 : 0, 1);
            }
        }
        checks.due("fields that are not private: the constants", open, 5);
    }

    private static void insideClasses() {
        Class<?>[] inside = WindRoses.class.getDeclaredClasses();
        checks.due("at most twelve classes", inside.length <= 11 ? 1 : 0, 1);
        for (Class<?> one : inside) {
            int modifiers = one.getModifiers();
            checks.due(one + " is static", Modifier.isStatic(modifiers) ? 1 : 0, 1);
            checks.due(one + " is open", Modifier.isPublic(modifiers) || Modifier.isProtected(modifiers) ? 1 : 0, 0);
        }
    }

    private static String withoutCommentsAndCharacters(String source) {
        String bare = source.replaceAll("(?s)/\\*.*?\\*/", "").replaceAll("//[^\n]*", "");
        return bare.replaceAll("'[^']'", "0");
    }

    private static void barredWords(String source) {
        for (String word : BARRED) {
            boolean isWord = Character.isLetter(word.charAt(0));
            String pattern = isWord ? "\\b" + word + "\\b" : Pattern.quote(word);
            checks.due("barred: " + word, Pattern.compile(pattern).matcher(source).find() ? 1 : 0, 0);
        }
        for (int i = 0; i < source.length(); i++) {
            if (source.charAt(i) > 126) {
                checks.due("the sign at " + i, source.charAt(i), 0);
            }
        }
    }

    private static void library(String source) {
        Set<String> allowed = Set.of("Math.abs", "Math.max", "Math.floorMod", "System.arraycopy");
        Matcher call = Pattern.compile("\\b(Math|System|Arrays|Character|Long)\\.\\w+").matcher(source);
        while (call.find()) {
            checks.due("library: " + call.group(), allowed.contains(call.group()) ? 1 : 0, 1);
        }
    }

    /** No call makes an object: so a run of any length lives in the room of its first call. */
    private static void madeInConstructorsAlone(String source) {
        boolean inConstructor = false;
        for (String line : source.split("\n")) {
            if (line.matches("\\s+(public )?[A-Z]\\w*\\([^)]*\\) \\{")) {
                inConstructor = true;
            } else if (line.matches("\\s+}")) {
                inConstructor = false;
            }
            if (line.matches(".*\\bnew\\b.*")) {
                checks.due("made in a constructor: " + line.trim(), inConstructor ? 1 : 0, 1);
            }
        }
    }

    private static void methodLengths(String source) {
        int length = 0;
        for (String line : source.split("\n")) {
            if (line.matches(" {4,8}[\\w\\[\\] ]+\\([^)]*\\) \\{") && !line.trim().startsWith("for")) {
                length = 0;
            }
            length++;
            if (line.matches(" {4,8}}")) {
                checks.due("sixty lines at most", length <= 60 ? 1 : 0, 1);
                length = 0;
            }
        }
    }
}
