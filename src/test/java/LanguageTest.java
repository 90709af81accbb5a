import java.io.IOException;
import java.lang.reflect.Executable;
import java.lang.reflect.Field;
import java.lang.reflect.Modifier;
import java.nio.file.Files;
import java.nio.file.Path;
import java.util.ArrayList;
import java.util.List;
import java.util.Set;
import java.util.regex.Matcher;
import java.util.regex.Pattern;

/** Those rules of ../shared/LANGUAGE.md that can be seen in the file's text or in the compiled classes. */
public final class LanguageTest {
    private static final Path SOURCE = Path.of("src/main/java/DeclareStates.java");
    private static final Set<String> NAMES = Set.of("DeclareStates", "Declaration", "Event", "Integer",
        "IllegalArgumentException", "IllegalStateException", "IndexOutOfBoundsException");
    private static final Set<String> REFUSED_WORDS = Set.of("import", "package", "try", "catch", "finally",
        "synchronized", "assert", "native", "volatile", "protected", "equals", "hashCode", "toString", "getMessage");
    private static final Checks C = new Checks();

    public static void main(String[] args) throws IOException {
        String code = withoutCommentsAndTexts(Files.readString(SOURCE));
        words(code);
        lengths(code);
        classes();
        C.end();
    }

    private static String withoutCommentsAndTexts(String source) {
        return source.replaceAll("(?s)/\\*.*?\\*/", "").replaceAll("//[^\n]*", "").replaceAll("\"[^\"\n]*\"", "\"\"");
    }

    // Rules 2, 3, 4, 6: no lambda, no other library, no words that are left out.
    private static void words(String code) {
        C.due("lambdas", false, code.contains("->"));
        C.due("method references", false, code.contains("::"));
        Matcher word = Pattern.compile("[A-Za-z_]\\w*").matcher(code);
        while (word.find()) {
            String one = word.group();
            boolean constant = one.equals(one.toUpperCase());
            boolean library = Character.isUpperCase(one.charAt(0)) && !constant && !NAMES.contains(one);
            if (library || REFUSED_WORDS.contains(one)) {
                C.report(SOURCE + " uses " + one);
            }
        }
    }

    // Rule 11: methods stay short (some sixty lines).
    private static void lengths(String code) {
        String[] lines = code.split("\n");
        for (String indent : new String[] {"    ", "        "}) {
            int start = 0;
            for (int i = 0; i < lines.length; i++) {
                boolean ends = lines[i].equals(indent + "}");
                if (ends && lines[start].contains("(") && i - start > 60) {
                    C.report("a method of " + (i - start) + " lines: " + lines[start]);
                }
                if (!ends && lines[i].startsWith(indent) && !lines[i].startsWith(indent + " ")) {
                    start = i;
                }
            }
        }
    }

    private static void classes() {
        List<Class<?>> all = new ArrayList<>(List.of(DeclareStates.class.getDeclaredClasses()));
        for (Class<?> inside : all) {
            C.due(inside + " is static", true, Modifier.isStatic(inside.getModifiers()));
            C.due(inside + " is not public", false, Modifier.isPublic(inside.getModifiers()));
        }
        all.add(DeclareStates.class);
        C.due("at most twelve classes", true, all.size() <= 12);
        for (Class<?> one : all) {
            fields(one);
            parameters(one.getDeclaredConstructors());
            parameters(one.getDeclaredMethods());
        }
    }

    // Rules 5 and 11: static fields are constants, and a class has some twenty others at most.
    private static void fields(Class<?> owner) {
        int own = 0;
        for (Field one : owner.getDeclaredFields()) {
            if (Modifier.isStatic(one.getModifiers())) {
                C.due(one + " is a final number", true,
                    Modifier.isFinal(one.getModifiers()) && one.getType() == int.class);
            } else {
                own++;
            }
        }
        C.due(owner + " has at most twenty fields", true, own <= 20);
    }

    private static void parameters(Executable[] all) {
        for (Executable one : all) {
            C.due(one + " takes at most seven", true, one.getParameterCount() <= 7);
        }
    }
}
