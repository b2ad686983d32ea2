import java.io.IOException;
import java.lang.reflect.Constructor;
import java.lang.reflect.Field;
import java.lang.reflect.Method;
import java.lang.reflect.Modifier;
import java.util.ArrayList;
import java.util.List;
import java.util.regex.Matcher;
import java.util.regex.Pattern;

/** What LANGUAGE.md tells of the shape of the classes: how much stands in them, how deep calls go, what is handed out. */
public final class ShapeTest {
    private static final int PARAMETERS = 7;
    private static final int FIELDS = 20;
    private static final int DEPTH = 8;

    private static final Checks checks = new Checks();

    public static void main(String[] args) throws IOException {
        List<Class<?>> classes = new ArrayList<>(List.of(WindRoses.class.getDeclaredClasses()));
        classes.add(WindRoses.class);
        for (Class<?> one : classes) {
            parameters(one);
            fields(one);
        }
        List<Source.Method> methods = Source.methods();
        checks.due("all methods are found", methods.size(), written(classes));
        for (Source.Method method : methods) {
            depth(method, methods);
            if (method.isConstructor()) {
                handedOut(method, classes);
            }
        }
        checks.end("ShapeTest");
    }

    private static int written(List<Class<?>> classes) {
        int written = 0;
        for (Class<?> one : classes) {
            for (Method method : one.getDeclaredMethods()) {
                written += method.isSynthetic() ? 0 : 1;
            }
            written += one.getDeclaredConstructors().length;
        }
        return written;
    }

    private static void parameters(Class<?> one) {
        for (Method method : one.getDeclaredMethods()) {
            checks.due(method + " takes seven at most", method.getParameterCount() <= PARAMETERS ? 1 : 0, 1);
        }
        for (Constructor<?> made : one.getDeclaredConstructors()) {
            checks.due(made + " takes seven at most", made.getParameterCount() <= PARAMETERS ? 1 : 0, 1);
        }
    }

    private static void fields(Class<?> one) {
        int ofAnObject = 0;
        for (Field field : one.getDeclaredFields()) {
            boolean isStatic = Modifier.isStatic(field.getModifiers());
            ofAnObject += isStatic ? 0 : 1;
            boolean isFinal = Modifier.isFinal(field.getModifiers());
            checks.due(field + " is final where it is static", !isStatic || isFinal ? 1 : 0, 1);
            checks.due(field + " is of an allowed type", isAllowed(field.getType()) ? 1 : 0, 1);
        }
        checks.due(one + " has some twenty fields at most", ofAnObject <= FIELDS ? 1 : 0, 1);
    }

    private static boolean isAllowed(Class<?> type) {
        Class<?> plain = type.isArray() ? type.getComponentType() : type;
        boolean isOwn = plain.getName().startsWith("WindRoses");
        boolean isOfLists = plain == List.class || plain == ArrayList.class || plain == Integer.class;
        return plain.isPrimitive() || isOwn || isOfLists || plain == String.class || plain == StringBuilder.class
            || plain.isArray() && plain.getComponentType().isPrimitive();
    }

    /** The program has no recursion: a chain that is longer than allowed shows one, too. */
    private static void depth(Source.Method method, List<Source.Method> methods) {
        String name = method.owner + "." + method.name;
        checks.due(name + " is eight deep at most", isDeeper(method, methods, DEPTH) ? 1 : 0, 0);
    }

    private static boolean isDeeper(Source.Method method, List<Source.Method> methods, int allowed) {
        if (allowed == 0) {
            return true;
        }
        for (Source.Method called : method.callsAmong(methods)) {
            if (isDeeper(called, methods, allowed - 1)) {
                return true;
            }
        }
        return false;
    }

    /** A constructor gives neither its object nor a part of it to another class. */
    private static void handedOut(Source.Method constructor, List<Class<?>> classes) {
        List<String> parts = new ArrayList<>(List.of("this"));
        for (Class<?> one : classes) {
            if (one.getSimpleName().equals(constructor.owner)) {
                for (Field field : one.getDeclaredFields()) {
                    boolean isPart = !field.getType().isPrimitive() && !Modifier.isStatic(field.getModifiers());
                    parts.addAll(isPart ? List.of(field.getName()) : List.of());
                }
            }
        }
        for (String part : parts) {
            Matcher given = Pattern.compile("[(,]\\s*" + part + "\\s*[,)]").matcher(constructor.body);
            checks.due("the constructor of " + constructor.owner + " hands out " + part, given.find() ? 1 : 0, 0);
        }
    }
}
