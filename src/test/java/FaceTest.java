import java.lang.reflect.Constructor;
import java.lang.reflect.Field;
import java.lang.reflect.Method;
import java.lang.reflect.Modifier;
import java.util.Arrays;
import java.util.TreeSet;

/** The public face: exactly the document's members, all others private (rule 1 of LANGUAGE.md). */
public final class FaceTest {
    private static final String[] METHODS = {
        "int feed(int,long) throws java.lang.IllegalArgumentException",
        "int wipe()",
        "long tape(int)",
        "int key(int,int) throws java.lang.IllegalArgumentException,java.lang.IllegalStateException",
        "long subkey(int) throws java.lang.IndexOutOfBoundsException",
        "long seal(long,long,int) throws java.lang.IllegalArgumentException",
        "long open(long,long,int) throws java.lang.IllegalArgumentException",
        "long other()",
        "void start(long,long)",
        "int mode(int,boolean) throws java.lang.IllegalArgumentException,java.lang.IllegalStateException",
        "long check()",
        "int kind()",
    };

    public static void main(String[] args) {
        Expect.equal("NONE", RotationCiphers.NONE, -1);
        Expect.isTrue("the class is public and final",
                RotationCiphers.class.getModifiers() == (Modifier.PUBLIC | Modifier.FINAL));
        methods();
        fields();
        Constructor<?>[] constructors = RotationCiphers.class.getDeclaredConstructors();
        Expect.equal("constructors", constructors.length, 1);
        Expect.equal("the constructor", constructors[0].toString(), "public RotationCiphers()");
        for (Class<?> inside : RotationCiphers.class.getDeclaredClasses()) {
            int modifiers = inside.getModifiers();
            Expect.isTrue(inside + " is static", Modifier.isStatic(modifiers));
            Expect.isTrue(inside + " is hidden", !Modifier.isPublic(modifiers) && !Modifier.isProtected(modifiers));
        }
        Expect.finish();
    }

    private static void methods() {
        TreeSet<String> names = new TreeSet<>();
        TreeSet<String> got = new TreeSet<>();
        for (Method method : RotationCiphers.class.getDeclaredMethods()) {
            if (Modifier.isPublic(method.getModifiers())) {
                names.add(method.getName());
                got.add(method.toString().replace("public ", "").replace("RotationCiphers.", ""));
            }
        }
        for (Method method : RotationCiphers.class.getDeclaredMethods()) {
            if (!Modifier.isPublic(method.getModifiers())) {
                Expect.isTrue(method + " is private", Modifier.isPrivate(method.getModifiers()));
                Expect.isTrue(method + " has a name of its own", !names.contains(method.getName()));
            }
        }
        Expect.equal("the public methods", got.toString(), new TreeSet<>(Arrays.asList(METHODS)).toString());
    }

    private static void fields() {
        for (Field field : RotationCiphers.class.getDeclaredFields()) {
            int modifiers = field.getModifiers();
            Expect.isTrue(field + " is private, or NONE",
                    Modifier.isPrivate(modifiers) || field.getName().equals("NONE"));
            Expect.isTrue(field + " is final, if static",
                    Modifier.isFinal(modifiers) || !Modifier.isStatic(modifiers));
        }
    }
}
