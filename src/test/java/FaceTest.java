import java.lang.reflect.Constructor;
import java.lang.reflect.Field;
import java.lang.reflect.Method;
import java.lang.reflect.Modifier;
import java.util.TreeSet;

/** The public face: just the document's constant, constructor and methods, and what they throw. */
public final class FaceTest {
    private static final String[] METHODS = {
        "int feed(int,int,int,int,int)", "boolean end(int)", "int valley()", "int fault()", "int hill(int,int)",
        "int man(int,int) throws", "int flight(int,int)", "int call(int,int,int)", "int now(int)", "int comes(int)",
        "int hours(int)", "int move(int,int)", "int swear(int,int)", "int accuse(int,int)", "int share()",
        "int undo()", "int far(int,int,int)", "int hears(int,int,int)", "int who(int,int)", "int first(int,int)",
        "int lied()", "int nearer(int)", "int due(int)", "int honest(int,int)", "int mean(int,int) throws",
        "int beside(int)", "int hut(int)", "int better(int) throws", "int whence()", "int enough(int)",
        "int least(int)", "int poor()", "int crowded()", "int swaps(int)", "int drawn(int,int)",
        "int odds(int,int,int,int)", "int roll(int)", "int rolled(int)", "int sentence()", "int said(int)",
        "boolean image(int)", "boolean restore(int)", "int count(int)",
    };

    public static void main(String[] args) {
        Check check = new Check();
        TreeSet<String> wanted = new TreeSet<>(java.util.Arrays.asList(METHODS));
        TreeSet<String> found = new TreeSet<>();
        TreeSet<String> publicNames = new TreeSet<>();
        for (Method m : CuckooShares.class.getDeclaredMethods()) {
            if (Modifier.isPublic(m.getModifiers())) {
                found.add(told(m));
                publicNames.add(m.getName());
            } else {
                check.due(m.getName() + " is private", Modifier.isPrivate(m.getModifiers()), true);
            }
        }
        check.due("methods " + found, found.equals(wanted), true);
        for (Method m : CuckooShares.class.getDeclaredMethods()) {
            if (!Modifier.isPublic(m.getModifiers())) {
                check.due(m.getName() + " is no name of the face", publicNames.contains(m.getName()), false);
            }
        }
        for (Class<?> inside : CuckooShares.class.getDeclaredClasses()) {
            check.due(inside + " is static", Modifier.isStatic(inside.getModifiers()), true);
            check.due(inside + " is not public", Modifier.isPublic(inside.getModifiers()), false);
            for (Method m : inside.getDeclaredMethods()) {
                check.due(inside + "." + m.getName() + " is no name of the face", publicNames.contains(m.getName()), false);
            }
        }
        for (Field f : CuckooShares.class.getDeclaredFields()) {
            boolean constant = f.getName().equals("NONE");
            check.due(f.getName() + " is public", Modifier.isPublic(f.getModifiers()), constant);
            check.due(f.getName() + " is private", Modifier.isPrivate(f.getModifiers()), !constant);
        }
        Constructor<?>[] made = CuckooShares.class.getDeclaredConstructors();
        check.due("constructors", made.length, 1);
        check.due("the constructor takes", made[0].getParameterCount(), 0);
        check.due("NONE", CuckooShares.NONE, -1);
        check.due("final", Modifier.isFinal(CuckooShares.class.getModifiers()), true);
        check.end();
    }

    private static String told(Method m) {
        StringBuilder text = new StringBuilder();
        text.append(m.getReturnType().getName()).append(' ').append(m.getName()).append('(');
        for (int i = 0; i < m.getParameterCount(); i++) {
            text.append(i == 0 ? "" : ",").append(m.getParameterTypes()[i].getName());
        }
        text.append(')');
        for (Class<?> e : m.getExceptionTypes()) {
            text.append(e == java.util.NoSuchElementException.class ? " throws" : " throws another one");
        }
        return text.toString();
    }
}
