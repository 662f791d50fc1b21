import java.lang.reflect.Constructor;
import java.lang.reflect.Field;
import java.lang.reflect.Method;
import java.lang.reflect.Modifier;
import java.util.Set;
import java.util.TreeSet;

// The class shows the document's face and nothing else (LANGUAGE.md, rules 1 and 5).
public final class FaceTest {
    private static final Set<String> FACE = Set.of(
        "public static final int NO_ROOM", "public static final int NO_KEY", "public static final int DOWN",
        "public ExtendStore(int,int)",
        "public int ExtendStore.format()", "public int ExtendStore.put(int,int)", "public int ExtendStore.get(int)",
        "public boolean ExtendStore.has(int)", "public int ExtendStore.remove(int)", "public int ExtendStore.size()",
        "public int ExtendStore.depth()", "public int ExtendStore.buckets()", "public int ExtendStore.sync()",
        "public void ExtendStore.crashAfter(int)", "public int ExtendStore.recover()",
        "public int ExtendStore.writes()", "public int ExtendStore.free()", "public int ExtendStore.bucket(int,int)");

    private static final Set<String> shown = new TreeSet<>();
    private static final Set<String> faults = new TreeSet<>();

    private static void lookAtFields() {
        for (Field field : ExtendStore.class.getDeclaredFields()) {
            String modifiers = Modifier.toString(field.getModifiers());
            if (!Modifier.isPrivate(field.getModifiers())) {
                shown.add(modifiers + " " + field.getType() + " " + field.getName());
            }
            if (Modifier.isStatic(field.getModifiers()) && !Modifier.isFinal(field.getModifiers())) {
                faults.add("static state: " + field);
            }
        }
    }

    private static void lookAtMethods(Class<?> holder, Set<String> publicNames) {
        for (Method method : holder.getDeclaredMethods()) {
            if (holder == ExtendStore.class && Modifier.isPublic(method.getModifiers())) {
                shown.add(method.toString());
            } else if (publicNames.contains(method.getName())) {
                faults.add("a method within bears a name of the face: " + method);
            } else if (holder == ExtendStore.class && !Modifier.isPrivate(method.getModifiers())) {
                faults.add("shown beside the face: " + method);
            }
        }
    }

    public static void main(String[] args) {
        if (Modifier.toString(ExtendStore.class.getModifiers()).equals("public final")) {
            lookAtFields();
        } else {
            faults.add("the class is not public and final");
        }
        for (Constructor<?> constructor : ExtendStore.class.getDeclaredConstructors()) {
            shown.add(constructor.toString());
        }
        Set<String> names = new TreeSet<>();
        for (Method method : ExtendStore.class.getMethods()) {
            if (method.getDeclaringClass() == ExtendStore.class) {
                names.add(method.getName());
            }
        }
        lookAtMethods(ExtendStore.class, names);
        for (Class<?> within : ExtendStore.class.getDeclaredClasses()) {
            lookAtMethods(within, names);
            if (!Modifier.isStatic(within.getModifiers()) || Modifier.isPublic(within.getModifiers())) {
                faults.add("a class within is not static or is public: " + within);
            }
        }
        if (!shown.equals(FACE)) {
            faults.add("the face is " + shown);
        }
        for (String fault : faults) {
            System.out.println(fault);
        }
        System.out.println(shown.size() + " members of the face, " + faults.size() + " faults");
        if (!faults.isEmpty()) {
            System.exit(1);
        }
    }
}
