import java.lang.reflect.Constructor;
import java.lang.reflect.Field;
import java.lang.reflect.Method;
import java.lang.reflect.Modifier;
import java.util.ArrayList;
import java.util.Arrays;
import java.util.List;
import java.util.TreeSet;

/** The class's face is the document's, and LANGUAGE.md's rules 1 and 5 hold as far as reflection shows. */
final class FaceTest {
    private static final Checks CHECKS = new Checks();

    // Parameters and exceptions by the first letters of their types, in the document's order.
    private static final String[] FACE = {
        "int street() U",
        "void round(int,int,int,int) X I",
        "boolean holiday(int,boolean) I",
        "int when(int,int,int) X I",
        "int house(int) X U",
        "int bin(int,int,int) X I U",
        "int mark(int,int) X",
        "boolean lost(int) X",
        "int move(int,int,int) X I U",
        "int part(int,int,int,int) X I U",
        "int cart(int) I U",
        "void table(int,int,int) I",
        "void terms(int,int) I",
        "int band(int,int) X I",
        "int tip(int,int,int) X I U",
        "boolean wrong(int) X N I",
        "void gate(int,int) X I",
        "int close() U",
        "long claim(int,int) X N I",
        "int weigh(int,int) X N I",
        "int look(int,int) X N",
        "long charge(int) X",
        "long share(int,int) X",
        "long charged(int) X",
        "long bill(int) X",
        "long pay(int,long) X I",
        "int middle(int) X",
        "int fill(int,int,int) X I",
        "int due(int) X",
        "int load(int,int) X N",
        "int about(int,int) X N",
        "int state(int,int) X N",
        "long count(int)",
    };

    public static void main(String[] args) {
        methods();
        constantsAndConstructor();
        ownClasses();
        CHECKS.end("FaceTest");
    }

    private static void methods() {
        TreeSet<String> want = new TreeSet<>(Arrays.asList(FACE));
        TreeSet<String> got = new TreeSet<>();
        TreeSet<String> names = new TreeSet<>();
        for (Method m : BinRounds.class.getDeclaredMethods()) {
            if (!Modifier.isPrivate(m.getModifiers())) {
                got.add(tell(m));
                names.add(m.getName());
                CHECKS.tell(Modifier.isPublic(m.getModifiers()) && !Modifier.isStatic(m.getModifiers()),
                    m + " is not plainly public");
            }
        }
        CHECKS.tell(got.equals(want), "the methods are " + got + ", due are " + want);
        for (Method m : BinRounds.class.getDeclaredMethods()) {
            CHECKS.tell(!Modifier.isPrivate(m.getModifiers()) || !names.contains(m.getName()),
                "private " + m.getName() + " bears a public one's name");
        }
    }

    private static String tell(Method m) {
        List<String> types = new ArrayList<>();
        for (Class<?> type : m.getParameterTypes()) {
            types.add(type.getName());
        }
        StringBuilder told = new StringBuilder();
        told.append(m.getReturnType().getName()).append(' ').append(m.getName());
        told.append('(').append(String.join(",", types)).append(')');
        for (Class<?> thrown : m.getExceptionTypes()) {
            told.append(' ').append(letter(thrown));
        }
        return told.toString();
    }

    private static String letter(Class<?> thrown) {
        if (thrown == IndexOutOfBoundsException.class) {
            return "X";
        }
        return thrown.getSimpleName().substring(0, 1);
    }

    private static void constantsAndConstructor() {
        CHECKS.due("NONE", BinRounds.NONE, -1);
        CHECKS.due("LATE", BinRounds.LATE, -2);
        CHECKS.tell(Modifier.isPublic(BinRounds.class.getModifiers())
            && Modifier.isFinal(BinRounds.class.getModifiers()), "the class is not public and final");
        Constructor<?>[] made = BinRounds.class.getDeclaredConstructors();
        CHECKS.due("constructors", made.length, 1);
        CHECKS.tell(Modifier.isPublic(made[0].getModifiers()) && made[0].getParameterCount() == 0,
            "the constructor is " + made[0]);
        TreeSet<String> open = new TreeSet<>();
        for (Field f : BinRounds.class.getDeclaredFields()) {
            if (!Modifier.isPrivate(f.getModifiers())) {
                open.add(f.getType().getName() + " " + f.getName());
            }
            CHECKS.tell(!Modifier.isStatic(f.getModifiers()) || Modifier.isFinal(f.getModifiers()),
                f + " is static and not final");
        }
        CHECKS.tell(open.toString().equals("[int LATE, int NONE]"), "the open fields are " + open);
    }

    private static void ownClasses() {
        Class<?>[] own = BinRounds.class.getDeclaredClasses();
        CHECKS.tell(own.length < 12, "there are " + (own.length + 1) + " classes");
        for (Class<?> c : own) {
            CHECKS.tell(Modifier.isStatic(c.getModifiers()) && !Modifier.isPublic(c.getModifiers())
                && !Modifier.isProtected(c.getModifiers()), c + " is not static, or open");
        }
    }
}
