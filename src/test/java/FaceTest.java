import java.lang.reflect.Constructor;
import java.lang.reflect.Field;
import java.lang.reflect.Method;
import java.lang.reflect.Modifier;
import java.util.HashSet;
import java.util.Set;
import java.util.TreeSet;

/** The face is the document's, with no other member that can be seen from outside. */
public final class FaceTest {
    private static final Set<String> FACE = Set.of(
            "public static final int NONE", "public static final int OFF",
            "public static final long UNOPENED", "public static final long LOST",
            "public static final long DARK", "public static final long NOWHERE",
            "public FadeLedger()",
            "public int open(int,int)", "public long balance(int)", "public int post(int,int)",
            "public int transfer(int,int,int)", "public long total()", "public int number(int)",
            "public boolean failAfter(int)", "public boolean fail()", "public int mount()", "public boolean on()",
            "public int lost(int)", "public long word(int,int)", "public int done(int)");

    private static final Due due = new Due();

    private FaceTest() {
    }

    public static void main(String[] args) {
        due.part("face");
        constants();
        members();
        due.end();
    }

    private static void constants() {
        due.is("NONE", FadeLedger.NONE, -1);
        due.is("OFF", FadeLedger.OFF, -2);
        due.is("UNOPENED", FadeLedger.UNOPENED, 1L << 40);
        due.is("LOST", FadeLedger.LOST, 1L << 41);
        due.is("DARK", FadeLedger.DARK, 1L << 42);
        due.is("NOWHERE", FadeLedger.NOWHERE, 1L << 43);
    }

    private static void members() {
        Class<?> type = FadeLedger.class;
        due.is("public and final", type.getModifiers(), Modifier.PUBLIC | Modifier.FINAL);
        Set<String> seen = new TreeSet<>();
        Set<String> publicNames = new HashSet<>();
        for (Field field : type.getDeclaredFields()) {
            if (!Modifier.isPrivate(field.getModifiers())) {
                seen.add(field.toString().replace("FadeLedger.", ""));
            }
            if (Modifier.isStatic(field.getModifiers()) && !Modifier.isFinal(field.getModifiers())) {
                due.report(field + " is static and not final");
            }
        }
        for (Constructor<?> constructor : type.getDeclaredConstructors()) {
            seen.add(constructor.toString());
        }
        for (Method method : type.getDeclaredMethods()) {
            if (!Modifier.isPrivate(method.getModifiers())) {
                seen.add(method.toString().replace("FadeLedger.", ""));
                publicNames.add(method.getName());
            }
        }
        for (Method method : type.getDeclaredMethods()) {
            if (Modifier.isPrivate(method.getModifiers()) && publicNames.contains(method.getName())) {
                due.report("the private " + method.getName() + " bears a public one's name");
            }
        }
        if (!seen.equals(FACE)) {
            due.report("the face is " + seen);
        }
    }
}
