import java.lang.reflect.Array;
import java.lang.reflect.Field;
import java.lang.reflect.Modifier;
import java.util.ArrayDeque;
import java.util.Collections;
import java.util.Deque;
import java.util.IdentityHashMap;
import java.util.Set;

/** The room of a run, some 600,000 objects and 7.3 million fields: what an object takes, and that its calls take no more. */
public final class RoomTest {
    private static final int OBJECTS_OF_ALL = 600_000;
    private static final int FIELDS_OF_ALL = 7_300_000;
    /** An object has 512 calls at most: a run that makes an object with each of them must still find room. */
    private static final int MADE = 512;
    private static final Check CHECK = new Check();

    private final Set<Object> objects = Collections.newSetFromMap(new IdentityHashMap<>());
    private int fields;

    public static void main(String[] args) throws IllegalAccessException {
        CuckooShares x = new CuckooShares();
        RoomTest made = new RoomTest();
        made.count(x);
        CHECK.due(made.objects.size() + " objects", made.objects.size() * MADE <= OBJECTS_OF_ALL, true);
        CHECK.due(made.fields + " fields and elements", made.fields * MADE <= FIELDS_OF_ALL, true);
        useAll(x);
        RoomTest used = new RoomTest();
        used.count(x);
        CHECK.due("no call keeps an object", used.objects.size(), made.objects.size());
        CHECK.due("no call keeps a field or element", used.fields, made.fields);
        CHECK.end();
    }

    private void count(Object first) throws IllegalAccessException {
        Deque<Object> open = new ArrayDeque<>();
        open.add(first);
        while (!open.isEmpty()) {
            Object one = open.remove();
            if (!objects.add(one)) {
                continue;
            }
            if (one.getClass().isArray()) {
                fields += Array.getLength(one);
                for (int i = 0; one instanceof Object[] && i < Array.getLength(one); i++) {
                    open.add(Array.get(one, i));
                }
            } else {
                countFields(one, open);
            }
        }
    }

    private void countFields(Object one, Deque<Object> open) throws IllegalAccessException {
        for (Field field : one.getClass().getDeclaredFields()) {
            if (Modifier.isStatic(field.getModifiers())) {
                continue;
            }
            fields++;
            if (!field.getType().isPrimitive()) {
                field.setAccessible(true);
                open.add(field.get(one));
            }
        }
    }

    private static void useAll(CuckooShares x) {
        Check.valley(x, "ridge 9;wheat 60;hill a 2 2;hill b 6 2;man m a 3 9;man n b 3 9;old n;needs m 4;flight 2 4 5 4 2;flight 1 0;");
        for (int year = 0; year < 12; year++) {
            x.comes(0);
            x.hours(5);
            x.swear(0, 0);
            x.swear(1, 0);
            x.accuse(0, 1);
            x.share();
            x.move(0, year % 2);
        }
        Check.roll(x, "comes 0;hour 9;m swears 0;shares;", 1);
        Check.sentence(x, "not (old or coin<3) and on a");
        Check.whence(x, 0, 5, 1, 5);
        x.image(0);
        x.image(1);
        Check.allAnswers(x);
        x.drawn(9, 1);
        x.restore(0);
        x.undo();
    }
}
