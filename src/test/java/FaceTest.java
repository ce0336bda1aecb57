import java.lang.reflect.Constructor;
import java.lang.reflect.Field;
import java.lang.reflect.Method;
import java.lang.reflect.Modifier;
import java.util.Set;
import java.util.TreeSet;

/** The public face is the document's, with what each call throws, and nothing else can be seen. */
public final class FaceTest {
    private static final String[] FACE = {
        "int add(byte) UnsupportedOperationException",
        "int poke(long,int) IndexOutOfBoundsException",
        "int place(long,long) IllegalArgumentException,UnsupportedOperationException",
        "int sign(int,boolean,long) IllegalArgumentException,IllegalStateException,UnsupportedOperationException",
        "int holds(int) NoSuchElementException",
        "long span(int,int,int) NoSuchElementException,IndexOutOfBoundsException",
        "void tell(int,int,long,long) NoSuchElementException,IndexOutOfBoundsException",
        "int chain(int,long,long) NoSuchElementException,IllegalArgumentException,UnsupportedOperationException",
        "int change(int,int) IllegalArgumentException,UnsupportedOperationException",
        "int allow(int,int) NoSuchElementException",
        "int lock(int,int) NoSuchElementException,IllegalArgumentException",
        "int certify(int,int) NoSuchElementException,IllegalArgumentException",
        "int since(int,int,int) NoSuchElementException,IndexOutOfBoundsException",
        "byte digest(int,int) NoSuchElementException,ArrayIndexOutOfBoundsException",
        "long behind(int) NoSuchElementException",
        "int stamp(long) IllegalArgumentException,UnsupportedOperationException",
        "long stamped(int,int) IndexOutOfBoundsException",
    };

    public static void main(String[] args) {
        Check check = new Check("FaceTest");
        Class<?> face = SignatureSpans.class;
        check.same("the class", "public final", Modifier.toString(face.getModifiers()));
        Constructor<?>[] made = face.getDeclaredConstructors();
        check.same("constructors", "1", Integer.toString(made.length));
        check.same("the constructor", "public SignatureSpans()", made[0].toString());
        Set<String> seen = new TreeSet<>();
        Set<String> publicNames = new TreeSet<>();
        Set<String> privateNames = new TreeSet<>();
        for (Method m : face.getDeclaredMethods()) {
            if (Modifier.isPrivate(m.getModifiers())) {
                privateNames.add(m.getName());
            } else {
                seen.add(told(m));
                publicNames.add(m.getName());
                check.same(m.getName(), "public", Modifier.toString(m.getModifiers()));
            }
        }
        check.same("methods", new TreeSet<>(Set.of(FACE)).toString(), seen.toString());
        privateNames.retainAll(publicNames);
        check.same("private methods with a public one's name", "[]", privateNames.toString());
        for (Field f : face.getDeclaredFields()) {
            check.same("field " + f.getName(), "true", Boolean.toString(Modifier.isPrivate(f.getModifiers())));
        }
        for (Class<?> inside : face.getDeclaredClasses()) {
            check.same(inside.getName(), "private static final", Modifier.toString(inside.getModifiers()));
        }
        check.end();
    }

    private static String told(Method m) {
        return m.getReturnType() + " " + m.getName() + "(" + names(m.getParameterTypes()) + ") "
                + names(m.getExceptionTypes());
    }

    private static String names(Class<?>[] types) {
        StringBuilder out = new StringBuilder();
        for (Class<?> type : types) {
            out.append(out.length() == 0 ? "" : ",").append(type.getSimpleName());
        }
        return out.toString();
    }
}
