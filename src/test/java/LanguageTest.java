import java.io.IOException;
import java.lang.reflect.Constructor;
import java.lang.reflect.Field;
import java.lang.reflect.Method;
import java.lang.reflect.Modifier;
import java.nio.file.Files;
import java.nio.file.Path;
import java.util.ArrayList;
import java.util.HashSet;
import java.util.List;
import java.util.Set;
import java.util.regex.Pattern;

/** Rules of LANGUAGE.md that a program can look at; run from the project's folder. */
public final class LanguageTest {
    private static final Check CHECK = new Check();
    private static final String[] REFUSED = {
        "\\bpackage\\s", "->", "::", "\\bsynchronized\\b", "\\bassert\\b", "\\bfinally\\b", "\\btry\\b", "\\bcatch\\b",
        "\\bSystem\\b", "\\bRandom\\b", "\\bThread\\b", "\\bObject\\b", "\\bLong\\[", "\\bNaN\\b",
        "\\w+Exact\\b", "\\bequals\\b", "\\bhashCode\\b", "\\btoString\\b", "\\bstatic\\s*\\{", "\\.getMessage\\b",
        "\\bwhile\\b", "\\bdo\\b", "\\bvar\\b", "java\\.(?!util\\.NoSuchElementException;)",
        "\\bMath\\.(?!floorMod\\b)", "\\bthrow\\s+(?!new )",
    };

    private static final String THROW = "\\bthrow new (IllegalState|IllegalArgument|UnsupportedOperation|NoSuchElement)Exception"
            + "\\(\"[^\"]*\"\\);";

    public static void main(String[] args) throws IOException {
        String text = Files.readString(Path.of("src/main/java/PakeDesk.java"));
        String code = text.replaceAll("(?s)/\\*.*?\\*/", " ").replaceAll("//[^\n]*", " ");
        for (String refused : REFUSED) {
            CHECK.same(false, "the code has " + refused, Pattern.compile(refused).matcher(code).find());
        }
        CHECK.same(code.split("\\bthrow\\b", -1).length, "throws of written texts (rule 6)", code.split(THROW, -1).length);
        CHECK.same(1, "imports", code.split("\\bimport\\s", -1).length - 1);
        shapes();
        CHECK.end();
    }

    private static void shapes() {
        List<Class<?>> classes = new ArrayList<>(List.of(PakeDesk.class));
        classes.addAll(List.of(PakeDesk.class.getDeclaredClasses()));
        Set<String> publics = new HashSet<>();
        for (Method method : PakeDesk.class.getMethods()) {
            publics.add(method.getName());
        }
        CHECK.same(true, "at most twelve classes", classes.size() <= 12);
        for (Class<?> one : classes) {
            int fields = 0;
            for (Field field : one.getDeclaredFields()) {
                boolean fixed = Modifier.isStatic(field.getModifiers());
                fields += fixed ? 0 : 1;
                CHECK.same(true, field + " is final if it is static",
                        !fixed || Modifier.isFinal(field.getModifiers()) && field.getType().isPrimitive());
            }
            CHECK.same(true, one + " has at most twenty fields", fields <= 20);
            for (Method method : one.getDeclaredMethods()) {
                CHECK.same(true, method + " is public or bears no public name (rule 1)",
                        Modifier.isPublic(method.getModifiers()) || !publics.contains(method.getName()));
                CHECK.same(true, method + " has at most seven parameters", method.getParameterCount() <= 7);
            }
            for (Constructor<?> constructor : one.getDeclaredConstructors()) {
                CHECK.same(true, constructor + " has at most seven parameters", constructor.getParameterCount() <= 7);
            }
        }
    }
}
