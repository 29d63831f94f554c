import java.lang.reflect.Constructor;
import java.lang.reflect.Field;
import java.lang.reflect.Member;
import java.lang.reflect.Method;
import java.lang.reflect.Modifier;
import java.util.ArrayList;
import java.util.Arrays;
import java.util.HashSet;
import java.util.List;
import java.util.Set;
import java.util.TreeSet;

/** The class shows the document's face, and nothing beside it; inside it keeps to LANGUAGE.md's numbers. */
public final class FaceTest {
    private static final String FACE = """
        NONE int -1
        FAILED int -9
        OTHER int 0
        NEW int 1
        COPIED int 2
        FLIPPED int 3
        GONE int 4
        ShardRing(int,int)
        int put(int,int) IllegalStateException
        int remove(int) IllegalStateException
        int get(int) IllegalStateException NoSuchElementException
        int join(int,int) IndexOutOfBoundsException IllegalArgumentException IllegalStateException
        int leave(int) IndexOutOfBoundsException IllegalStateException
        int step() IllegalStateException
        void fail(int) IllegalArgumentException IllegalStateException
        int recover() IllegalStateException
        boolean off()
        int place(long)
        int owner(int) IllegalStateException
        int home(int) IllegalStateException
        int state(int) IllegalStateException
        boolean holds(int,int) IndexOutOfBoundsException
        int size(int) IndexOutOfBoundsException
        int key(int,int) IndexOutOfBoundsException
        int points(int) IndexOutOfBoundsException IllegalStateException
        int count(int) IllegalArgumentException IllegalStateException
        int written(boolean)
        long share(int) IndexOutOfBoundsException IllegalStateException
        """;

    private FaceTest() { }

    public static void main(String[] args) throws IllegalAccessException {
        Set<String> due = new TreeSet<>(Arrays.asList(FACE.strip().split("\n")));
        Set<String> shown = new TreeSet<>(faceOf(ShardRing.class));
        List<String> faults = new ArrayList<>();
        for (String line : due) {
            if (!shown.contains(line)) {
                faults.add("missing: " + line);
            }
        }
        for (String line : shown) {
            if (!due.contains(line)) {
                faults.add("not of the document: " + line);
            }
        }
        if (!Modifier.isPublic(ShardRing.class.getModifiers()) || !Modifier.isFinal(ShardRing.class.getModifiers())) {
            faults.add("the class is not public and final");
        }
        faults.addAll(insideFaults());
        faults.forEach(System.out::println);
        System.out.println("FaceTest: " + due.size() + " members, " + faults.size() + " faults");
        if (!faults.isEmpty()) {
            System.exit(1);
        }
    }

    private static List<String> faceOf(Class<?> face) throws IllegalAccessException {
        List<String> lines = new ArrayList<>();
        for (Field field : face.getDeclaredFields()) {
            if (isShown(field)) {
                boolean constant = Modifier.isStatic(field.getModifiers()) && Modifier.isFinal(field.getModifiers());
                lines.add(field.getName() + " " + field.getType().getSimpleName() + " "
                    + (constant ? field.get(null) : "no constant"));
            }
        }
        for (Constructor<?> constructor : face.getDeclaredConstructors()) {
            if (isShown(constructor)) {
                lines.add(face.getSimpleName() + names(constructor.getParameterTypes()));
            }
        }
        for (Method method : face.getDeclaredMethods()) {
            if (isShown(method)) {
                StringBuilder line = new StringBuilder(method.getReturnType().getSimpleName());
                line.append(' ').append(method.getName()).append(names(method.getParameterTypes()));
                for (Class<?> exception : method.getExceptionTypes()) {
                    line.append(' ').append(exception.getSimpleName());
                }
                lines.add(line.toString());
            }
        }
        return lines;
    }

    private static List<String> insideFaults() {
        List<String> faults = new ArrayList<>();
        Set<String> publicNames = new HashSet<>();
        for (Method method : ShardRing.class.getDeclaredMethods()) {
            if (Modifier.isPublic(method.getModifiers())) {
                publicNames.add(method.getName());
            }
        }
        List<Class<?>> classes = new ArrayList<>(List.of(ShardRing.class.getDeclaredClasses()));
        for (Class<?> inside : classes) {
            if (!Modifier.isStatic(inside.getModifiers()) || Modifier.isPublic(inside.getModifiers())) {
                faults.add("class inside is not static, or public: " + inside.getSimpleName());
            }
        }
        classes.add(ShardRing.class);
        if (classes.size() > 12) {
            faults.add("more than twelve classes");
        }
        for (Class<?> each : classes) {
            faults.addAll(sizeFaults(each));
            for (Method method : each.getDeclaredMethods()) {
                if (!Modifier.isPublic(method.getModifiers()) && publicNames.contains(method.getName())) {
                    faults.add("a method inside bears a public name: " + method.getName());
                }
            }
        }
        return faults;
    }

    /** What LANGUAGE.md says in its rules 5 and 11 and can be seen from outside. */
    private static List<String> sizeFaults(Class<?> each) {
        List<String> faults = new ArrayList<>();
        int fields = 0;
        for (Field field : each.getDeclaredFields()) {
            boolean isStatic = Modifier.isStatic(field.getModifiers());
            if (isStatic && !Modifier.isFinal(field.getModifiers())) {
                faults.add("static, but not final: " + field);
            }
            fields += isStatic ? 0 : 1;
        }
        if (fields > 20) {
            faults.add("more than twenty fields: " + each.getSimpleName());
        }
        for (Method method : each.getDeclaredMethods()) {
            if (method.getParameterCount() > 7) {
                faults.add("more than seven parameters: " + method);
            }
        }
        return faults;
    }

    private static boolean isShown(Member member) {
        return !Modifier.isPrivate(member.getModifiers()) && !member.isSynthetic();
    }

    private static String names(Class<?>[] types) {
        StringBuilder names = new StringBuilder("(");
        for (int i = 0; i < types.length; i++) {
            names.append(i == 0 ? "" : ",").append(types[i].getSimpleName());
        }
        return names.append(')').toString();
    }
}
