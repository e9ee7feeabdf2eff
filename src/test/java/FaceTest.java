import java.lang.reflect.Field;
import java.lang.reflect.Method;
import java.lang.reflect.Modifier;
import java.util.Arrays;
import java.util.TreeSet;

/** The public face, and that no other member can be seen from outside. */
public final class FaceTest {
    private static final String[] FACE = {
        "int sign(int) throws IllegalArgumentException, UnsupportedOperationException",
        "int read()",
        "int unit(int,int,int) throws IllegalArgumentException, UnsupportedOperationException",
        "boolean change(int,int,int) throws NoSuchElementException, IllegalArgumentException, "
            + "IllegalStateException, UnsupportedOperationException",
        "int gone(int,int) throws NoSuchElementException, IllegalArgumentException, "
            + "IllegalStateException",
        "int move(int,int,int,int) throws IllegalArgumentException, UnsupportedOperationException",
        "int sum(int,int) throws IllegalArgumentException",
        "int days(int,int) throws IllegalArgumentException",
        "int average(int,int) throws IllegalArgumentException, ArithmeticException",
        "int bill(int,int) throws IllegalArgumentException, IllegalStateException",
        "int correct(int,int) throws IllegalArgumentException, IllegalStateException",
        "int line(int,int,int) throws NoSuchElementException, IllegalArgumentException",
        "int billed(int) throws IllegalArgumentException",
        "int compare(int,int,int) throws IllegalArgumentException",
        "int print(int) throws IllegalArgumentException",
        "int at(int) throws ArrayIndexOutOfBoundsException",
        "int count(int)"};

    public static void main(String[] args) {
        Class<?> face = StorageCharge.class;
        TreeSet<String> seen = new TreeSet<>();
        TreeSet<String> publicNames = new TreeSet<>();
        for (Method m : face.getDeclaredMethods()) {
            if (!Modifier.isPrivate(m.getModifiers())) {
                seen.add(written(m));
                publicNames.add(m.getName());
            }
        }
        Checks.due("the face", seen.toString(), new TreeSet<>(Arrays.asList(FACE)).toString());
        for (Method m : face.getDeclaredMethods()) {
            if (Modifier.isPrivate(m.getModifiers())) {
                Checks.due("private " + m.getName(), publicNames.contains(m.getName()), false);
            }
        }
        for (Field f : face.getDeclaredFields()) {
            Checks.due("private field " + f.getName(), Modifier.isPrivate(f.getModifiers()), true);
            Checks.due("static field " + f.getName(),
                    Modifier.isStatic(f.getModifiers()) && !Modifier.isFinal(f.getModifiers()), false);
        }
        Checks.due("public final", face.getModifiers(), Modifier.PUBLIC | Modifier.FINAL);
        Checks.due("constructors", Arrays.toString(face.getDeclaredConstructors()),
                "[public StorageCharge()]");
        Checks.end();
    }

    private static String written(Method m) {
        StringBuilder all = new StringBuilder();
        for (Class<?> c : m.getParameterTypes()) {
            all.append(all.length() == 0 ? "" : ",").append(c.getName());
        }
        StringBuilder thrown = new StringBuilder();
        for (Class<?> c : m.getExceptionTypes()) {
            thrown.append(thrown.length() == 0 ? " throws " : ", ").append(c.getSimpleName());
        }
        return m.getReturnType().getName() + " " + m.getName() + "(" + all + ")" + thrown;
    }
}
