import java.lang.reflect.Constructor;
import java.lang.reflect.Field;
import java.lang.reflect.Method;
import java.lang.reflect.Modifier;
import java.util.Arrays;
import java.util.TreeSet;

/** The class has the document's face, and nothing else can be seen of it. */
public final class FaceTest {
    public static void main(String[] args) {
        Checks c = new Checks();
        String[] face = {
            "public int ServiceRows2.identifier(int,int,int,int)",
            "public int ServiceRows2.dynamic(int,int,int)",
            "public int ServiceRows2.routine(int,int)",
            "public int ServiceRows2.condition(int,boolean)",
            "public int ServiceRows2.rights(int)",
            "public int ServiceRows2.control(int,int,long)",
            "public int ServiceRows2.pending(int)",
            "public int ServiceRows2.ask(byte)",
            "public byte ServiceRows2.answer(int) throws java.lang.ArrayIndexOutOfBoundsException",
            "public int ServiceRows2.code()",
            "public int ServiceRows2.transfer(int,byte)",
            "public int ServiceRows2.tick(long)",
            "public long ServiceRows2.value(int)",
        };
        TreeSet<String> due = new TreeSet<>(Arrays.asList(face));
        TreeSet<String> seen = new TreeSet<>();
        TreeSet<String> names = new TreeSet<>();
        for (Method method : ServiceRows2.class.getDeclaredMethods()) {
            if (!Modifier.isPrivate(method.getModifiers())) {
                seen.add(method.toString());
                names.add(method.getName());
            }
        }
        System.out.println("methods seen: " + seen.size());
        c.due("the methods are those of the face (1)", seen.equals(due) ? 1 : 0, 1);
        for (Method method : ServiceRows2.class.getDeclaredMethods()) {
            if (Modifier.isPrivate(method.getModifiers())) {
                c.due("a private method named " + method.getName(), names.contains(method.getName()) ? 1 : 0, 0);
            }
        }
        for (Field field : ServiceRows2.class.getDeclaredFields()) {
            int modifiers = field.getModifiers();
            c.due("private " + field.getName(), Modifier.isPrivate(modifiers) ? 1 : 0, 1);
            c.due("no changing static " + field.getName(),
                    Modifier.isStatic(modifiers) && !Modifier.isFinal(modifiers) ? 1 : 0, 0);
        }
        Constructor<?>[] constructors = ServiceRows2.class.getDeclaredConstructors();
        c.due("constructors", constructors.length, 1);
        c.due("parameters", constructors[0].getParameterCount(), 0);
        c.due("public constructor", Modifier.isPublic(constructors[0].getModifiers()) ? 1 : 0, 1);
        int modifiers = ServiceRows2.class.getModifiers();
        c.due("public and final", Modifier.isPublic(modifiers) && Modifier.isFinal(modifiers) ? 1 : 0, 1);
        for (Class<?> inside : ServiceRows2.class.getDeclaredClasses()) {
            int kind = inside.getModifiers();
            c.due("private and static " + inside, Modifier.isPrivate(kind) && Modifier.isStatic(kind) ? 1 : 0, 1);
        }
        c.end();
    }
}
