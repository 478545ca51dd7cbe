import java.io.IOException;
import java.lang.reflect.Field;
import java.lang.reflect.Method;
import java.lang.reflect.Modifier;
import java.nio.file.Files;
import java.nio.file.Path;
import java.util.HashSet;
import java.util.Set;
import java.util.regex.Matcher;
import java.util.regex.Pattern;

/** What of LANGUAGE.md can be seen in the source's text and in the compiled class. Run from the project's folder. */
public final class LanguageTest {
    private static final String[] FORBIDDEN = {"throw", "throws", "try", "catch", "finally", "synchronized", "assert", "protected",
        "native", "volatile", "transient", "var", "yield", "Object", "Exception", "hashCode", "toString", "double", "float"};

    public static void main(String[] args) throws IOException {
        String source = Files.readString(Path.of("src/main/java/GooseShares.java"));
        String code = withoutCommentsAndTexts(source);
        words(code);
        imports(code);
        objectsAreMadeInConstructors(code);
        signs(source);
        face();
        fields();
        Check.finish();
    }

    private static String withoutCommentsAndTexts(String source) {
        return source.replaceAll("(?s)/\\*.*?\\*/", " ").replaceAll("//[^\n]*", " ").replaceAll("\"[^\"\n]*\"", "\"\"");
    }

    private static void words(String code) {
        for (String word : FORBIDDEN) {
            Check.due("uses of " + word, count(code, "\\b" + word + "\\b"), 0);
        }
        Check.due("lambdas and arrows", count(code, "->"), 0);
        Check.due("method references", count(code, "::"), 0);
        Check.due("names of exact functions", count(code, "Exact\\b"), 0);
        Check.due("package lines", count(code, "(?m)^package "), 0);
        Check.due("static blocks", count(code, "static\\s*\\{"), 0);
        Check.due("classes", count(code, "\\bclass\\b"), 10);
        Check.due("nested classes that are not static", count(code, "(?m)^    (?!private static final class).*\\bclass\\b"), 0);
    }

    private static void imports(String code) {
        Check.due("imports", count(code, "(?m)^import "), 1);
        Check.due("Arrays alone", count(code, "(?m)^import java\\.util\\.Arrays;"), 1);
        Matcher m = Pattern.compile("\\b(Arrays|Math|Integer|Long|System)\\.(\\w+)").matcher(code);
        Set<String> allowed = Set.of("Arrays.fill", "Math.min", "Math.max", "Math.abs", "Integer.bitCount", "System.arraycopy");
        while (m.find()) {
            Check.due(m.group(), allowed.contains(m.group()) ? 0 : 1, 0);
        }
    }

    /** Calls live in one room with all others: what is made is made once for an object. */
    private static void objectsAreMadeInConstructors(String code) {
        int made = count(code, "\\bnew\\b");
        int inFields = count(code, "(?m)^ +(private )?final [\\w\\[\\]]+ \\w+ = new [^\n]*;");
        int argument = count(code, "new Reader\\(tape, new Land\\(\\)\\)");
        int inConstructor = count(code, "(images\\[k\\] = new Land|rows\\[slot\\] = new Row)\\(\\)");
        Check.due("new outside of fields and constructors", made - inFields - argument - inConstructor, 0);
    }

    private static void signs(String source) {
        for (int i = 0; i < source.length(); i++) {
            char c = source.charAt(i);
            if (c != '\n' && (c < 32 || c > 126)) {
                Check.due("sign " + (int) c + " at " + i, 1, 0);
            }
        }
    }

    private static void face() {
        Set<String> names = new HashSet<>();
        Method[] methods = GooseShares.class.getDeclaredMethods();
        for (Method m : methods) {
            if (Modifier.isPublic(m.getModifiers())) {
                names.add(m.getName());
                Check.due(m.getName() + " answers an int", m.getReturnType() == int.class ? 0 : 1, 0);
                Check.due(m.getName() + " is no static", Modifier.isStatic(m.getModifiers()) ? 1 : 0, 0);
            } else {
                Check.due(m.getName() + " is private", Modifier.isPrivate(m.getModifiers()) || m.isSynthetic() ? 0 : 1, 0);
            }
            Check.due(m.getName() + " takes seven at most", m.getParameterCount() <= 7 ? 0 : 1, 0);
        }
        Check.due("methods of the face", names.size(), 70);
        Check.due("constructors", GooseShares.class.getDeclaredConstructors().length, 1);
        Check.due("the class is public and final", GooseShares.class.getModifiers(), Modifier.PUBLIC | Modifier.FINAL);
        for (Method m : methods) {
            if (!Modifier.isPublic(m.getModifiers())) {
                Check.due(m.getName() + " has a name of its own", names.contains(m.getName()) ? 1 : 0, 0);
            }
        }
        for (Class<?> inside : GooseShares.class.getDeclaredClasses()) {
            for (Method m : inside.getDeclaredMethods()) {
                Check.due(inside.getName() + "." + m.getName(), names.contains(m.getName()) ? 1 : 0, 0);
            }
        }
    }

    private static void fields() {
        for (Class<?> inside : GooseShares.class.getDeclaredClasses()) {
            checkFields(inside);
        }
        checkFields(GooseShares.class);
    }

    private static void checkFields(Class<?> owner) {
        int own = 0;
        for (Field f : owner.getDeclaredFields()) {
            boolean isStatic = Modifier.isStatic(f.getModifiers());
            own += isStatic ? 0 : 1;
            Check.due(f + " is final", isStatic && !Modifier.isFinal(f.getModifiers()) ? 1 : 0, 0);
            boolean seen = owner == GooseShares.class && !f.getName().equals("NONE") && !Modifier.isPrivate(f.getModifiers());
            Check.due(f + " is private", seen ? 1 : 0, 0);
        }
        Check.due(owner + " has some twenty fields", own <= 20 ? 0 : 1, 0);
    }

    private static int count(String text, String pattern) {
        Matcher m = Pattern.compile(pattern).matcher(text);
        int many = 0;
        while (m.find()) {
            many++;
        }
        return many;
    }
}
