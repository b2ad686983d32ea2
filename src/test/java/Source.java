import java.io.IOException;
import java.nio.file.Files;
import java.nio.file.Path;
import java.util.ArrayList;
import java.util.List;
import java.util.regex.Matcher;
import java.util.regex.Pattern;

/** The source of the program, and the methods and constructors that are written in it. */
final class Source {
    private static final Path PROGRAM = Path.of("src/main/java/WindRoses.java");
    private static final Pattern OWNER = Pattern.compile("\\s*(?:(?:public|private|static|final) )*class (\\w+).*");
    private static final Pattern HEAD = Pattern.compile(
        "\\s*(?:(?:public|private|static|final) )*(?:[\\w\\[\\]]+ )?(\\w+)\\(([^()]*)\\) \\{");
    private static final Pattern CALLED = Pattern.compile("\\b(\\w+)\\(");

    static final class Method {
        final String owner;
        final String name;
        final StringBuilder body = new StringBuilder();

        private Method(String in, String called) {
            owner = in;
            name = called;
        }

        boolean isConstructor() {
            return name.equals(owner);
        }

        /** All methods that bear the name of one that is called: so a call is rather taken for more than for less. */
        List<Method> callsAmong(List<Method> methods) {
            List<Method> called = new ArrayList<>();
            Matcher call = CALLED.matcher(body);
            while (call.find()) {
                for (Method method : methods) {
                    if (method.name.equals(call.group(1)) && !called.contains(method)) {
                        called.add(method);
                    }
                }
            }
            return called;
        }
    }

    private Source() {
    }

    static String withoutCommentsAndCharacters() throws IOException {
        String source = Files.readString(PROGRAM);
        String bare = source.replaceAll("(?s)/\\*.*?\\*/", "").replaceAll("//[^\n]*", "");
        return bare.replaceAll("'[^']'", "0");
    }

    static List<Method> methods() throws IOException {
        List<Method> methods = new ArrayList<>();
        String owner = "";
        Method current = null;
        int depth = 0;
        int depthOfCurrent = 0;
        for (String line : withoutCommentsAndCharacters().split("\n")) {
            Matcher ofClass = OWNER.matcher(line);
            Matcher head = HEAD.matcher(line);
            if (ofClass.matches()) {
                owner = ofClass.group(1);
            } else if (current == null && head.matches()) {
                current = new Method(owner, head.group(1));
                depthOfCurrent = depth;
                methods.add(current);
            } else if (current != null) {
                current.body.append(line).append('\n');
            }
            depth += count(line, '{') - count(line, '}');
            if (current != null && depth == depthOfCurrent) {
                current = null;
            }
        }
        return methods;
    }

    private static int count(String line, char sign) {
        return (int) line.chars().filter(is -> is == sign).count();
    }
}
