import java.lang.reflect.Constructor;
import java.lang.reflect.Field;
import java.lang.reflect.Method;
import java.lang.reflect.Modifier;
import java.util.Set;
import java.util.TreeSet;

/** The face of the document, and no other member that is seen from outside. */
public final class FaceTest {
    private static final Set<String> FACE = Set.of(
        "public FragmentHouse()",
        "public int FragmentHouse.feed(int,int,int,int,int)",
        "public int FragmentHouse.end(int)",
        "public int FragmentHouse.take(int,int,int,int,boolean)",
        "public int FragmentHouse.pass(int)",
        "public int FragmentHouse.making()",
        "public int FragmentHouse.made()",
        "public int FragmentHouse.length()",
        "public int FragmentHouse.at(int)");

    public static void main(String[] args) {
        Check check = new Check();
        int modifiers = FragmentHouse.class.getModifiers();
        check.holds("the class is public and final",
            Modifier.isPublic(modifiers) && Modifier.isFinal(modifiers));
        Set<String> seen = membersSeenFromOutside();
        check.holds("the face is " + new TreeSet<>(FACE) + ", not " + seen, seen.equals(FACE));
        privateMethodsHaveOtherNames(check);
        staticFieldsAreFinal(check);
        for (Class<?> inside : FragmentHouse.class.getDeclaredClasses()) {
            check.holds(inside + " is static and not public",
                Modifier.isStatic(inside.getModifiers()) && !Modifier.isPublic(inside.getModifiers()));
        }
        check.finish();
    }

    private static void privateMethodsHaveOtherNames(Check check) {
        Set<String> names = new TreeSet<>();
        for (Method method : FragmentHouse.class.getMethods()) {
            names.add(method.getName());
        }
        for (Method method : FragmentHouse.class.getDeclaredMethods()) {
            check.holds(method + " has a name of its own",
                Modifier.isPublic(method.getModifiers()) || !names.contains(method.getName()));
        }
    }

    /** Two objects can share nothing that changes. */
    private static void staticFieldsAreFinal(Check check) {
        for (Field field : FragmentHouse.class.getDeclaredFields()) {
            check.holds(field + " is of the object, or a constant",
                !Modifier.isStatic(field.getModifiers())
                    || Modifier.isFinal(field.getModifiers()) && field.getType() == int.class);
        }
    }

    private static Set<String> membersSeenFromOutside() {
        Set<String> seen = new TreeSet<>();
        for (Constructor<?> constructor : FragmentHouse.class.getDeclaredConstructors()) {
            addIfSeen(seen, constructor.getModifiers(), constructor.toString());
        }
        for (Method method : FragmentHouse.class.getDeclaredMethods()) {
            addIfSeen(seen, method.getModifiers(), method.toString());
        }
        for (Field field : FragmentHouse.class.getDeclaredFields()) {
            addIfSeen(seen, field.getModifiers(), field.toString());
        }
        return seen;
    }

    private static void addIfSeen(Set<String> seen, int modifiers, String member) {
        if (!Modifier.isPrivate(modifiers)) {
            seen.add(member);
        }
    }
}
