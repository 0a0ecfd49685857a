import java.lang.reflect.Constructor;
import java.lang.reflect.Field;
import java.lang.reflect.Method;
import java.lang.reflect.Modifier;
import java.util.Set;
import java.util.TreeSet;

/**
 * The document's public face: all of it, as it stands there, and nothing beside it. The other tests
 * stand in the class's own package, so they would not see it if a member were no longer public.
 */
public final class LeafSignerFace {
    private static final Set<String> CONSTANTS = Set.of(
            "public static final int LeafSigner.NONE",
            "public static final int LeafSigner.USED");
    private static final Set<String> CONSTRUCTORS = Set.of("public LeafSigner()");
    private static final Set<String> METHODS = Set.of(
            "public int LeafSigner.begin(long,long,long,int)",
            "public int LeafSigner.grow(int)",
            "public long LeafSigner.node(int,int,int)",
            "public int LeafSigner.feed(long)",
            "public int LeafSigner.reset()",
            "public int LeafSigner.digit(int,int)",
            "public int LeafSigner.sign()",
            "public int LeafSigner.leaf()",
            "public long LeafSigner.part(int,int)",
            "public int LeafSigner.setLeaf(int)",
            "public int LeafSigner.setPart(int,int,long)",
            "public int LeafSigner.tell(int,long)",
            "public int LeafSigner.verify()",
            "public long LeafSigner.hash(int,int)",
            "public int LeafSigner.count(int)",
            "public int LeafSigner.check()");

    public static void main(String[] args) {
        theClass();
        theConstants();
        theConstructor();
        theMethods();
        theClassesInside();
        Due.end();
    }

    private static void theClass() {
        Due.sentence("public final class LeafSigner");
        dueText("modifiers", Modifier.toString(LeafSigner.class.getModifiers()), "public final");
        dueText("package", LeafSigner.class.getPackageName(), "");
        dueText("superclass", LeafSigner.class.getSuperclass().getName(), "java.lang.Object");
        Due.due("interfaces", LeafSigner.class.getInterfaces().length, 0);
    }

    private static void theConstants() {
        Due.sentence("public static final int NONE = -1; public static final int USED = -2");
        Set<String> seen = new TreeSet<>();
        for (Field field : LeafSigner.class.getDeclaredFields()) {
            addUnlessPrivate(seen, field.getModifiers(), field.toString());
        }
        dueText("fields that are seen", seen.toString(), new TreeSet<>(CONSTANTS).toString());
        dueText("-1", nameOf(-1), "NONE");
        dueText("-2", nameOf(-2), "USED");
    }

    /** The labels of a switch must be known when it is compiled, as the document's constants are. */
    private static String nameOf(int answer) {
        return switch (answer) {
            case LeafSigner.NONE -> "NONE";
            case LeafSigner.USED -> "USED";
            default -> "no constant";
        };
    }

    private static void theConstructor() {
        Due.sentence("public LeafSigner()");
        Set<String> all = new TreeSet<>();
        for (Constructor<?> constructor : LeafSigner.class.getDeclaredConstructors()) {
            addUnlessPrivate(all, constructor.getModifiers(), constructor.toString());
        }
        dueText("constructors that are seen", all.toString(), CONSTRUCTORS.toString());
    }

    private static void theMethods() {
        Due.sentence("The public face: the methods");
        Set<String> seen = new TreeSet<>();
        Set<String> names = new TreeSet<>();
        for (Method method : LeafSigner.class.getDeclaredMethods()) {
            addUnlessPrivate(seen, method.getModifiers(), method.toString());
            addUnlessPrivate(names, method.getModifiers(), method.getName());
        }
        dueText("methods that are seen", seen.toString(), new TreeSet<>(METHODS).toString());
        for (Method method : LeafSigner.class.getDeclaredMethods()) {
            if (Modifier.isPrivate(method.getModifiers()) && names.contains(method.getName())) {
                Due.tellWrong("a private method is named " + method.getName());
            }
        }
    }

    private static void theClassesInside() {
        Due.sentence("The public face: nothing beside it but classes inside, static and not public");
        for (Class<?> inside : LeafSigner.class.getDeclaredClasses()) {
            int modifiers = inside.getModifiers();
            Due.due(inside.getName() + " is static", Modifier.isStatic(modifiers) ? 1 : 0, 1);
            Due.due(inside.getName() + " is public", Modifier.isPublic(modifiers) ? 1 : 0, 0);
            Due.due(inside.getName() + " is protected", Modifier.isProtected(modifiers) ? 1 : 0, 0);
        }
    }

    private static void addUnlessPrivate(Set<String> seen, int modifiers, String member) {
        if (!Modifier.isPrivate(modifiers)) {
            seen.add(member);
        }
    }

    private static void dueText(String what, String got, String want) {
        if (!got.equals(want)) {
            Due.tellWrong(what + ": " + got + ", due is " + want);
        }
    }
}
