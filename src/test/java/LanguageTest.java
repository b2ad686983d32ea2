import java.io.IOException;
import java.lang.reflect.Field;
import java.lang.reflect.Method;
import java.lang.reflect.Modifier;
import java.util.Arrays;
import java.util.Set;
import java.util.TreeSet;
import java.util.regex.Matcher;
import java.util.regex.Pattern;

/** The face that the document asks for, and what of LANGUAGE.md can be seen in the source. */
public final class LanguageTest {
    private static final Checks checks = new Checks();
    private static final String FACE = "log 5,calm 3,strike 4,turn 3,set 2,engrave 2,renew 2,type 1,clearText 0,"
        + "logAll 0,undo 0,keep 0,restore 0,rose 3,hours 4,share 4,dealt 4,quarter 3,excess 3,unlike 3,seasonOf 2,"
        + "plate 3,petal 4,reason 2,nextPlate 0,count 1";
    private static final String[] BARRED = {
        "package", "throw", "throws", "try", "catch", "finally", "synchronized", "assert", "native", "volatile",
        "transient", "protected", "Object", "Thread", "Random", "Character", "::"};

    public static void main(String[] args) throws IOException {
        constants();
        methods();
        fields();
        insideClasses();
        String source = Source.withoutCommentsAndCharacters();
        barredWords(source);
        signs(source);
        arrows(source);
        library(source);
        methodLengths(source);
        checks.end("LanguageTest");
    }

    private static void constants() {
        checks.due("UNKNOWN", WindRoses.UNKNOWN, -1);
        checks.due("BAD_VALUE", WindRoses.BAD_VALUE, -2);
        checks.due("FULL", WindRoses.FULL, -3);
        checks.due("NOT_POSSIBLE", WindRoses.NOT_POSSIBLE, -4);
        checks.due("NONE", WindRoses.NONE, -5);
    }

    private static void methods() {
        Set<String> face = new TreeSet<>(Arrays.asList(FACE.split(",")));
        Set<String> names = new TreeSet<>();
        for (String method : face) {
            names.add(method.split(" ")[0]);
        }
        Set<String> found = new TreeSet<>();
        for (Method method : WindRoses.class.getDeclaredMethods()) {
            if (Modifier.isPublic(method.getModifiers())) {
                found.add(method.getName() + " " + method.getParameterCount());
                checks.due(method + " is static", Modifier.isStatic(method.getModifiers()) ? 1 : 0, 0);
                checks.due(method + " tells an int", method.getReturnType() == int.class ? 1 : 0, 1);
            } else {
                checks.due(method + " is private", Modifier.isPrivate(method.getModifiers()) ? 1 : 0, 1);
                checks.due(method + " has a public name", names.contains(method.getName()) ? 1 : 0, 0);
            }
        }
        checks.due("the face is " + found, found.equals(face) ? 1 : 0, 1);
        checks.due("constructors", WindRoses.class.getDeclaredConstructors().length, 1);
        checks.due("the class is final", Modifier.isFinal(WindRoses.class.getModifiers()) ? 1 : 0, 1);
    }

    private static void fields() {
        int open = 0;
        for (Field field : WindRoses.class.getDeclaredFields()) {
            open += Modifier.isPrivate(field.getModifiers()) ? 0 : 1;
            if (Modifier.isStatic(field.getModifiers())) {
                checks.due(field + " is final", Modifier.isFinal(field.getModifiers()) ? 1 : 0, 1);
            }
        }
        checks.due("fields that are not private: the constants", open, 5);
    }

    private static void insideClasses() {
        Class<?>[] inside = WindRoses.class.getDeclaredClasses();
        checks.due("at most twelve classes", inside.length <= 11 ? 1 : 0, 1);
        for (Class<?> one : inside) {
            int modifiers = one.getModifiers();
            checks.due(one + " is static", Modifier.isStatic(modifiers) ? 1 : 0, 1);
            checks.due(one + " is open", Modifier.isPublic(modifiers) || Modifier.isProtected(modifiers) ? 1 : 0, 0);
        }
    }

    private static void barredWords(String source) {
        for (String word : BARRED) {
            boolean isWord = Character.isLetter(word.charAt(0));
            String pattern = isWord ? "\\b" + word + "\\b" : Pattern.quote(word);
            checks.due("barred: " + word, Pattern.compile(pattern).matcher(source).find() ? 1 : 0, 0);
        }
    }

    private static void signs(String source) {
        for (int i = 0; i < source.length(); i++) {
            if (source.charAt(i) > 126) {
                checks.due("the sign at " + i, source.charAt(i), 0);
            }
        }
    }

    /** An arrow is that of a switch, or of a lambda, which is barred. */
    private static void arrows(String source) {
        for (String line : source.split("\n")) {
            if (line.contains("->")) {
                checks.due("barred: " + line.trim(), line.matches("\\s*(case|default)\\b.*") ? 1 : 0, 1);
            }
        }
    }

    private static void library(String source) {
        String allowed = "(Math|Integer|Long)\\.(?!\\w+Exact\\b)\\w+|System\\.arraycopy"
            + "|Arrays\\.(copyOf|copyOfRange|fill)|List\\.of";
        Matcher call = Pattern.compile("\\b(Math|System|Arrays|Integer|Long|List)\\.\\w+").matcher(source);
        while (call.find()) {
            checks.due("library: " + call.group(), call.group().matches(allowed) ? 1 : 0, 1);
        }
        Matcher taken = Pattern.compile("\\bimport\\s+([^;]*);").matcher(source);
        while (taken.find()) {
            boolean isOfTheList = taken.group(1).matches("java\\.util\\.(ArrayList|List|Arrays|Iterator)");
            checks.due("library: " + taken.group(), isOfTheList ? 1 : 0, 1);
        }
    }

    private static void methodLengths(String source) {
        int length = 0;
        for (String line : source.split("\n")) {
            if (line.matches(" {4,8}[\\w\\[\\] ]+\\([^)]*\\) \\{") && !line.trim().startsWith("for")) {
                length = 0;
            }
            length++;
            if (line.matches(" {4,8}}")) {
                checks.due("sixty lines at most", length <= 60 ? 1 : 0, 1);
                length = 0;
            }
        }
    }
}
