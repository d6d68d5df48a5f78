import java.lang.reflect.Constructor;
import java.lang.reflect.Field;
import java.lang.reflect.Method;
import java.lang.reflect.Modifier;
import java.util.Set;
import java.util.TreeSet;

/** The public face: exactly the members that the document writes out. */
public final class FaceTest {
    private static final Set<String> METHODS = Set.of(
        "public int feed(long, int)", "public int reset()", "public boolean key(int)", "public boolean tick()",
        "public int shown()", "public int viewer(int)", "public int kept(int, int)", "public int count(int)",
        "public int look(int, int, int)", "public int point(int, int, int, int)");

    private FaceTest() {
    }

    public static void main(String[] args) throws NoSuchFieldException {
        Check.sentence("public final class PageReceiver");
        Check.due("public final", PageReceiver.class.getModifiers(), Modifier.PUBLIC | Modifier.FINAL);
        Check.due("no package", PageReceiver.class.getPackageName().isEmpty(), true);
        none();
        constructor();
        methods();
        nothingElse();
        Check.finish();
    }

    private static void none() throws NoSuchFieldException {
        Check.sentence("public static final int NONE = -1;");
        Field none = PageReceiver.class.getDeclaredField("NONE");
        Check.due("modifiers", none.getModifiers(), Modifier.PUBLIC | Modifier.STATIC | Modifier.FINAL);
        Check.due("an int", none.getType() == int.class, true);
        Check.due("its value", PageReceiver.NONE, -1);
    }

    private static void constructor() {
        Check.sentence("public PageReceiver(int places);");
        Constructor<?>[] constructors = PageReceiver.class.getDeclaredConstructors();
        Check.due("one alone", constructors.length, 1);
        Check.due("as written", constructors[0].toString().equals("public PageReceiver(int)"), true);
    }

    private static void methods() {
        Check.sentence("public int feed(long bytes, int n);");
        Set<String> found = new TreeSet<>();
        for (Method method : PageReceiver.class.getDeclaredMethods()) {
            if (!Modifier.isPrivate(method.getModifiers()) && !method.isSynthetic()) {
                found.add(method.toString().replace("PageReceiver.", "").replace(",", ", "));
            }
        }
        for (String method : METHODS) {
            Check.due(method, found.contains(method), true);
        }
        Check.due("no others", found.size(), METHODS.size());
    }

    private static void nothingElse() {
        Check.sentence("## The public face");
        for (Field field : PageReceiver.class.getDeclaredFields()) {
            boolean hidden = Modifier.isPrivate(field.getModifiers()) || field.isSynthetic();
            Check.due(field.getName() + " is private", hidden, !field.getName().equals("NONE"));
        }
        for (Class<?> inside : PageReceiver.class.getDeclaredClasses()) {
            int modifiers = inside.getModifiers();
            Check.due(inside + " is static", Modifier.isStatic(modifiers), true);
            Check.due(inside + " is public", Modifier.isPublic(modifiers), false);
            Check.due(inside + " is protected", Modifier.isProtected(modifiers), false);
        }
    }
}
