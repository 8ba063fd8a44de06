import java.lang.reflect.Constructor;
import java.lang.reflect.Field;
import java.lang.reflect.Method;
import java.lang.reflect.Modifier;
import java.util.Set;
import java.util.TreeSet;

/** The public face is the document's and nothing more (rule 1 of LANGUAGE.md). */
public final class FaceTest {
    private static final String[] METHODS = {
        "public boolean PakeDesk.register(int,int,long,long)",
        "public boolean PakeDesk.forget(int)",
        "public int PakeDesk.way(int)",
        "public long PakeDesk.salt(int)",
        "public int PakeDesk.client(int,int,long,long) throws java.lang.IllegalArgumentException,java.lang.IllegalStateException",
        "public int PakeDesk.server(int,int,long) throws java.lang.IllegalArgumentException,java.lang.IllegalStateException",
        "public int PakeDesk.receive(int,long) throws java.util.NoSuchElementException,java.lang.IllegalStateException,"
                + "java.lang.IllegalArgumentException,java.lang.UnsupportedOperationException",
        "public int PakeDesk.pass(int,int,long) throws java.util.NoSuchElementException,java.lang.IllegalStateException,"
                + "java.lang.IllegalArgumentException,java.lang.UnsupportedOperationException",
        "public long PakeDesk.message(int)",
        "public long PakeDesk.key(int) throws java.util.NoSuchElementException,java.lang.IllegalStateException",
        "public int PakeDesk.state(int)",
        "public boolean PakeDesk.blocked(int)",
        "public int PakeDesk.tick(int) throws java.lang.IllegalArgumentException",
        "public int PakeDesk.sessions()",
    };

    public static void main(String[] args) {
        Check check = new Check();
        Set<String> want = new TreeSet<>(Set.of(METHODS));
        Set<String> got = new TreeSet<>();
        Set<String> privates = new TreeSet<>();
        Set<String> publics = new TreeSet<>();
        for (Method method : PakeDesk.class.getDeclaredMethods()) {
            boolean hidden = Modifier.isPrivate(method.getModifiers());
            (hidden ? privates : publics).add(method.getName());
            if (!hidden) {
                got.add(method.toString());
            }
        }
        check.same(want, "the methods that are not private", got);
        privates.retainAll(publics);
        check.same("[]", "private methods with a public name", privates);
        for (Field field : PakeDesk.class.getDeclaredFields()) {
            boolean none = field.toString().equals("public static final int PakeDesk.NONE");
            check.same(!none, field + " is private", Modifier.isPrivate(field.getModifiers()));
        }
        for (Constructor<?> constructor : PakeDesk.class.getDeclaredConstructors()) {
            check.same("public PakeDesk(int)", "a constructor", constructor);
        }
        for (Class<?> inside : PakeDesk.class.getDeclaredClasses()) {
            int kind = inside.getModifiers();
            check.same("true", inside + " is static and not open to all",
                    Modifier.isStatic(kind) && !Modifier.isPublic(kind) && !Modifier.isProtected(kind));
        }
        check.same("public final", "the class", Modifier.toString(PakeDesk.class.getModifiers()));
        check.sentence("Constants", "`NONE = -1`: Nothing there.");
        check.same(-1, "NONE", PakeDesk.NONE);
        check.end();
    }
}
