import java.lang.reflect.Constructor;
import java.lang.reflect.Field;
import java.lang.reflect.Method;
import java.lang.reflect.Modifier;
import java.util.Set;
import java.util.TreeSet;

/** The class has the document's face, and nothing else that others can see. */
public final class FaceTest {
    private static final Set<String> FACE = Set.of(
            "public int PropertyTrie.set(int,int,int,int) throws java.lang.IllegalArgumentException",
            "public int PropertyTrie.mark(int,int,int,int,int) throws java.lang.IllegalArgumentException",
            "public int PropertyTrie.get(int,int) throws java.lang.IllegalArgumentException",
            "public int PropertyTrie.change(int,int) throws java.lang.IllegalArgumentException",
            "public boolean PropertyTrie.alike(int,int) throws java.lang.IllegalArgumentException",
            "public int PropertyTrie.hash(int,int,int) throws java.lang.IllegalArgumentException",
            "public int PropertyTrie.clear()",
            "public PropertyTrie()");

    public static void main(String[] args) {
        Checks checks = new Checks();
        Set<String> seen = new TreeSet<>();
        for (Constructor<?> constructor : PropertyTrie.class.getDeclaredConstructors()) {
            seen.add(constructor.toString());
        }
        Set<String> names = Set.of("set", "mark", "get", "change", "alike", "hash", "clear");
        for (Method method : PropertyTrie.class.getDeclaredMethods()) {
            if (Modifier.isPrivate(method.getModifiers())) {
                checks.due(method + " has a name of the face", names.contains(method.getName()), false);
            } else {
                seen.add(method.toString());
            }
        }
        for (Field field : PropertyTrie.class.getDeclaredFields()) {
            checks.due(field + " is private", Modifier.isPrivate(field.getModifiers()), true);
        }
        checkStaticFields(checks, PropertyTrie.class);
        for (Class<?> inside : PropertyTrie.class.getDeclaredClasses()) {
            int modifiers = inside.getModifiers();
            checks.due(inside + " is static", Modifier.isStatic(modifiers), true);
            checks.due(inside + " is public or protected",
                    Modifier.isPublic(modifiers) || Modifier.isProtected(modifiers), false);
            checkStaticFields(checks, inside);
        }
        checks.due("the class is below Object alone", PropertyTrie.class.getSuperclass() == Object.class, true);
        checks.due("interfaces of the class", PropertyTrie.class.getInterfaces().length, 0);
        checks.due("the face " + seen + " is " + FACE, seen.equals(FACE), true);
        int modifiers = PropertyTrie.class.getModifiers();
        checks.due("the class is public and final", modifiers, Modifier.PUBLIC | Modifier.FINAL);
        checks.finish();
    }

    /** Objects can have nothing in common but constants. */
    private static void checkStaticFields(Checks checks, Class<?> inClass) {
        for (Field field : inClass.getDeclaredFields()) {
            if (Modifier.isStatic(field.getModifiers())) {
                checks.due(field + " is final", Modifier.isFinal(field.getModifiers()), true);
            }
        }
    }
}
