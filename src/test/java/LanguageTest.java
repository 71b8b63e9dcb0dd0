import java.io.IOException;
import java.lang.reflect.Method;
import java.lang.reflect.Modifier;
import java.nio.file.Files;
import java.nio.file.Path;
import java.util.HashSet;
import java.util.List;
import java.util.Set;
import java.util.regex.Matcher;
import java.util.regex.Pattern;

/** The rules of ../shared/LANGUAGE.md that can be seen from the words of the program. */
public final class LanguageTest {
    private static final Path SOURCE = Path.of("src/main/java/SubtitleStyles.java");

    /** The class needs no library but Math, no exceptions and no texts; so these words are enough. */
    private static final String[] FORBIDDEN = {
        "\\bimport\\b", "\\bpackage\\b", "\\bthrow\\b", "\\bthrows\\b", "\\btry\\b", "\\bcatch\\b", "\\bfinally\\b",
        "\\bsynchronized\\b", "\\bassert\\b", "\\bprotected\\b", "->", "::", "@", "\"", "\\bSystem\\b",
        "\\bString\\b", "\\bObject\\b", "\\bThread\\b", "\\bdouble\\b", "\\bjava\\b", "Exact\\b", "static \\{",
        "\\bwhile\\b", "\\bMath\\.(?!max\\()"
    };

    private static final Due d = new Due();

    public static void main(String[] args) throws IOException {
        String source = Files.readString(SOURCE);
        String code = source.replaceAll("(?s)/\\*.*?\\*/", "").replaceAll("//[^\n]*", "");
        for (String word : FORBIDDEN) {
            int found = 0;
            Matcher matcher = Pattern.compile(word).matcher(code);
            while (matcher.find()) {
                found++;
            }
            d.due("the number of " + word, found, 0);
        }
        for (int i = 0; i < source.length(); i++) {
            if (source.charAt(i) > 126) {
                d.due("the sign at " + i, source.charAt(i), 126);
            }
        }
        classes();
        methodLengths(List.of(source.split("\n")));
        d.end();
    }

    private static void classes() {
        Set<String> face = new HashSet<>();
        for (Method method : SubtitleStyles.class.getDeclaredMethods()) {
            if (Modifier.isPublic(method.getModifiers())) {
                face.add(method.getName());
            }
        }
        Class<?>[] inside = SubtitleStyles.class.getDeclaredClasses();
        d.due("at most twelve classes", inside.length < 12 ? 1 : 0, 1);
        privateNames(SubtitleStyles.class, face);
        for (Class<?> one : inside) {
            privateNames(one, face);
            d.due(one + " is private", Modifier.isPrivate(one.getModifiers()) ? 1 : 0, 1);
            d.due(one + " is static", Modifier.isStatic(one.getModifiers()) ? 1 : 0, 1);
        }
    }

    private static void privateNames(Class<?> one, Set<String> face) {
        for (Method method : one.getDeclaredMethods()) {
            boolean isPublic = Modifier.isPublic(method.getModifiers());
            if (!isPublic) {
                d.due(method + " has a name of its own", face.contains(method.getName()) ? 1 : 0, 0);
            }
            d.due(method + " has at most seven parameters", method.getParameterCount() <= 7 ? 1 : 0, 1);
        }
    }

    /** A method begins with a line that ends with ") {" and ends with a brace below its first sign. */
    private static void methodLengths(List<String> lines) {
        Pattern head = Pattern.compile("( +)(?!for|if|switch|while|else|return)\\w[^=;]*\\) \\{");
        for (int i = 0; i < lines.size(); i++) {
            Matcher matcher = head.matcher(lines.get(i));
            if (matcher.matches()) {
                int end = i;
                while (end < lines.size() && !lines.get(end).equals(matcher.group(1) + "}")) {
                    end++;
                }
                d.due("at most sixty lines: " + lines.get(i).trim(), end - i < 60 ? 1 : 0, 1);
            }
        }
    }
}
