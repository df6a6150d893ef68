import java.lang.reflect.Constructor;
import java.lang.reflect.Field;
import java.lang.reflect.Method;
import java.lang.reflect.Modifier;
import java.util.Arrays;
import java.util.NoSuchElementException;
import java.util.Set;
import java.util.TreeSet;

/** The public face, and the rules 1, 5 and 11 of LANGUAGE.md as far as they can be seen in the compiled class. */
public final class FaceTest {
    private static final String[] FACE = {
        "int feed(int,int,int,int,int)", "boolean end(int)", "int fault(int)", "int text(int)", "int man(int,int)",
        "int orchard(int,int)", "boolean law(int)", "int won()", "int go(int)", "int stay(int)", "int press(int,int)",
        "int evening()", "int march(int,long)", "int undo()", "int log(int,int)", "int duel(int,int,int)",
        "int champion(int)", "int escorts(int,int)", "int loophole(int)", "int closed()", "int reads(int)",
        "int away(int)", "int forced(int)", "int soonest(int)", "int pony(int)", "int gets(int,int)",
        "int resting(int)", "int letter(int,int)", "int fit(int,int)", "int ask(int,int)", "int odds(int,int)",
        "int hurry(int,int)", "int behind(int)", "int next(int)", "int last()", "int even()", "int treaty(int,int)",
        "int victors(int)", "int sure(int)", "int weary()", "int ahead(int)", "int meeting(int,int)", "int image()",
        "int back()", "int count(int)"
    };

    private FaceTest() {
    }

    public static void main(String[] args) throws Exception {
        checkFace();
        checkFields();
        checkNames();
        checkInside();
        Check.finish("FaceTest");
    }

    private static String signature(Method m) {
        StringBuilder text = new StringBuilder(m.getReturnType().getName()).append(' ').append(m.getName()).append('(');
        for (Class<?> p : m.getParameterTypes()) {
            text.append(text.charAt(text.length() - 1) == '(' ? "" : ",").append(p.getName());
        }
        return text.append(')').toString();
    }

    private static void checkFace() throws Exception {
        Set<String> got = new TreeSet<>();
        for (Method m : LastHome.class.getDeclaredMethods()) {
            if (!Modifier.isPrivate(m.getModifiers())) {
                got.add(signature(m));
                Check.same(signature(m) + " is public", Modifier.isPublic(m.getModifiers()), true);
                Check.same(signature(m) + " is static", Modifier.isStatic(m.getModifiers()), false);
                Check.same(signature(m) + " declares", m.getExceptionTypes().length, m.getName().equals("man") ? 1 : 0);
            }
        }
        Set<String> due = new TreeSet<>(Arrays.asList(FACE));
        Check.same("the face " + got, got.equals(due), true);
        Class<?>[] thrown = LastHome.class.getMethod("man", int.class, int.class).getExceptionTypes();
        Check.same("man declares it", thrown[0] == NoSuchElementException.class, true);
        Constructor<?>[] made = LastHome.class.getDeclaredConstructors();
        Check.same("constructors", made.length, 1);
        Check.same("its parameters", made[0].getParameterCount(), 0);
        Check.same("it is public", Modifier.isPublic(made[0].getModifiers()), true);
        int modifiers = LastHome.class.getModifiers();
        Check.same("public final", Modifier.isPublic(modifiers) && Modifier.isFinal(modifiers), true);
    }

    private static void checkFields() throws Exception {
        Check.same("NONE", LastHome.NONE, -1);
        Check.same("HIDDEN", LastHome.HIDDEN, -1000000);
        for (Field f : LastHome.class.getDeclaredFields()) {
            boolean constant = f.getName().equals("NONE") || f.getName().equals("HIDDEN");
            Check.same(f.getName() + " is private", Modifier.isPrivate(f.getModifiers()), !constant);
            Check.same(f.getName() + " is public", Modifier.isPublic(f.getModifiers()), constant);
        }
    }

    private static void checkNames() {
        Set<String> names = new TreeSet<>();
        for (Method m : LastHome.class.getMethods()) {
            if (m.getDeclaringClass() == LastHome.class) {
                names.add(m.getName());
            }
        }
        checkNamesOf(LastHome.class, names);
        for (Class<?> inside : LastHome.class.getDeclaredClasses()) {
            checkNamesOf(inside, names);
        }
    }

    private static void checkNamesOf(Class<?> type, Set<String> names) {
        for (Method m : type.getDeclaredMethods()) {
            boolean ofFace = type == LastHome.class && Modifier.isPublic(m.getModifiers());
            Check.same(type.getName() + "." + m.getName() + " bears a public name",
                !ofFace && names.contains(m.getName()), false);
            Check.same(m.getName() + " has few parameters", m.getParameterCount() <= 7, true);
        }
    }

    private static void checkInside() {
        Class<?>[] inside = LastHome.class.getDeclaredClasses();
        Check.same("twelve classes at most", inside.length + 1 <= 12, true);
        for (Class<?> type : inside) {
            Check.same(type.getName() + " is static", Modifier.isStatic(type.getModifiers()), true);
            int fields = 0;
            for (Field f : type.getDeclaredFields()) {
                boolean fixed = Modifier.isStatic(f.getModifiers());
                fields += fixed ? 0 : 1;
                Check.same(f.getName() + " is final if static", !fixed || Modifier.isFinal(f.getModifiers()), true);
            }
            Check.same(type.getName() + " has twenty fields at most", fields <= 20, true);
        }
    }
}
