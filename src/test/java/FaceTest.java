import java.lang.reflect.Field;
import java.lang.reflect.Method;
import java.lang.reflect.Modifier;
import java.util.Arrays;
import java.util.TreeSet;

/** The public face, and that no other member can be seen from outside. */
public final class FaceTest {
    private static final String[] FACE = {
        "int sign(int)", "int read()", "int unit(int,int,int)", "boolean change(int,int,int)",
        "int gone(int,int)", "int move(int,int,int,int)", "int sum(int,int)", "int days(int,int)",
        "int average(int,int)", "int bill(int,int)", "int correct(int,int)", "int line(int,int,int)",
        "int billed(int)", "int compare(int,int,int)", "int print(int)", "int at(int)",
        "int count(int)"};

    public static void main(String[] args) {
        Class<?> face = StorageCharge.class;
        TreeSet<String> seen = new TreeSet<>();
        TreeSet<String> publicNames = new TreeSet<>();
        for (Method m : face.getDeclaredMethods()) {
            if (!Modifier.isPrivate(m.getModifiers())) {
                seen.add(written(m));
                publicNames.add(m.getName());
            }
        }
        Checks.due("the face", seen.toString(), new TreeSet<>(Arrays.asList(FACE)).toString());
        for (Method m : face.getDeclaredMethods()) {
            if (Modifier.isPrivate(m.getModifiers())) {
                Checks.due("private " + m.getName(), publicNames.contains(m.getName()), false);
            }
        }
        for (Field f : face.getDeclaredFields()) {
            Checks.due("private field " + f.getName(), Modifier.isPrivate(f.getModifiers()), true);
            Checks.due("static field " + f.getName(),
                    Modifier.isStatic(f.getModifiers()) && !Modifier.isFinal(f.getModifiers()), false);
        }
        Checks.due("public final", face.getModifiers(), Modifier.PUBLIC | Modifier.FINAL);
        Checks.due("constructors", Arrays.toString(face.getDeclaredConstructors()),
                "[public StorageCharge()]");
        Checks.end();
    }

    private static String written(Method m) {
        StringBuilder all = new StringBuilder();
        for (Class<?> c : m.getParameterTypes()) {
            all.append(all.length() == 0 ? "" : ",").append(c.getName());
        }
        return m.getReturnType().getName() + " " + m.getName() + "(" + all + ")";
    }
}
