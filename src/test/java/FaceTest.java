import java.lang.reflect.Constructor;
import java.lang.reflect.Field;
import java.lang.reflect.Method;
import java.lang.reflect.Modifier;
import java.util.Set;
import java.util.TreeSet;

/** The public face of the document: its members, and no other that is not private. */
public final class FaceTest {
    private static final String[] METHODS = {
        "int simple(int)", "int integer(long,long,int,boolean)", "int enumeration(int,int)",
        "int row(int,int,int)", "int text(int,int,int,int)", "int list(int,int,int)",
        "int open(int,boolean)", "int part(int,int)", "int close()", "int clear()", "int put(long)",
        "int drop()", "long number(int)", "int numbers()", "int pack(int)", "int unpack(int)",
        "int place()", "int bits()", "int feed(int)", "int wipe()", "int turn(int)",
        "int octet(int)", "int octets()", "int type(int,int)"
    };

    public static void main(String[] args) {
        constants();
        methods();
        fields(PackedCodec.class);
        for (Class<?> inside : PackedCodec.class.getDeclaredClasses()) {
            Due.is(inside + " is static", 1, Modifier.isStatic(inside.getModifiers()) ? 1 : 0);
            Due.is(inside + " is not public", 0, Modifier.isPublic(inside.getModifiers()) ? 1 : 0);
            fields(inside);
        }
        Constructor<?>[] made = PackedCodec.class.getDeclaredConstructors();
        Due.is("constructors", 1, made.length);
        Due.is("its parameters", 0, made[0].getParameterCount());
        Due.is("it is public", 1, Modifier.isPublic(made[0].getModifiers()) ? 1 : 0);
        Due.is("the class is final", 1, Modifier.isFinal(PackedCodec.class.getModifiers()) ? 1 : 0);
        Due.end();
    }

    private static void constants() {
        Due.is("NONE", -1, PackedCodec.NONE);
        Due.is("BAD", -2, PackedCodec.BAD);
        Due.is("FULL", -3, PackedCodec.FULL);
        Due.is("MISFIT", -11, PackedCodec.MISFIT);
        Due.is("REFUSED", -12, PackedCodec.REFUSED);
        Due.is("public fields", 5, PackedCodec.class.getFields().length);
    }

    private static void methods() {
        Set<String> want = new TreeSet<>(Set.of(METHODS));
        Set<String> got = new TreeSet<>();
        Set<String> hidden = new TreeSet<>();
        for (Method m : PackedCodec.class.getDeclaredMethods()) {
            if (Modifier.isPrivate(m.getModifiers())) {
                hidden.add(m.getName());
            } else {
                got.add(signature(m));
            }
        }
        Due.is("missing: " + minus(want, got), 0, minus(want, got).size());
        Due.is("too many: " + minus(got, want), 0, minus(got, want).size());
        for (String signature : METHODS) {
            String name = signature.substring(signature.indexOf(' ') + 1, signature.indexOf('('));
            Due.is("a private " + name, 0, hidden.contains(name) ? 1 : 0);
        }
    }

    private static String signature(Method m) {
        StringBuilder text = new StringBuilder(m.getReturnType() + " " + m.getName() + "(");
        for (int i = 0; i < m.getParameterCount(); i++) {
            text.append(i == 0 ? "" : ",").append(m.getParameterTypes()[i]);
        }
        return text.append(")").toString();
    }

    private static Set<String> minus(Set<String> all, Set<String> some) {
        Set<String> rest = new TreeSet<>(all);
        rest.removeAll(some);
        return rest;
    }

    /** Static fields are final; the class itself shows no field but its constants. */
    private static void fields(Class<?> of) {
        for (Field f : of.getDeclaredFields()) {
            int how = f.getModifiers();
            Due.is(f + " is final if static", 1, Modifier.isFinal(how) || !Modifier.isStatic(how) ? 1 : 0);
            Due.is(f + " is private, or a constant", 1,
                Modifier.isPrivate(how) || (Modifier.isPublic(how) && Modifier.isStatic(how)) ? 1 : 0);
        }
    }
}
