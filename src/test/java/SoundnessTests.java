import java.lang.reflect.Array;
import java.lang.reflect.Field;

/**
 * Promise 48 where it is not so: no call makes a house unsound, so that this test alone reaches into
 * the program's fields and spoils one at a time. Who renames a field there renames it here.
 */
public final class SoundnessTests {
    private static final Checks C = new Checks();

    public static void main(String[] args) throws ReflectiveOperationException {
        C.is("a house that nobody spoiled", true, spoiled("treasury", 0));
        C.is("the treasury has one cent more", false, spoiled("stateCents", 1));
        C.is("one cent more was earned", false, spoiled("earnedCents", 1));
        C.is("one cent more was advanced", false, spoiled("advancedCents", 1));
        C.is("one cent more was paid back", false, spoiled("paidBackCents", 1));
        C.is("a purse has one cent more", false, spoiledPurse());
        C.is("a share too many", false, spoiledWork(0, "parts", 2, 1));
        C.is("a share too few", false, spoiledWork(0, "parts", 2, -1));
        C.is("somebody was told of who is no hand", false, spoiledWork(0, "told", 2, 1));
        C.is("somebody was told of the first person, who is no hand", false, spoiledWork(2, "told", 0, 1));
        C.close("SoundnessTests");
    }

    private static Nomdeplume house() {
        Nomdeplume x = Houses.town();
        x.advance(0, 70);
        x.earn(0, 100);
        x.tell(0, 1, 0, 0, true);
        Houses.rule(x, 1, "lift");
        return x;
    }

    private static boolean spoiled(String field, long more) throws ReflectiveOperationException {
        Nomdeplume x = house();
        if (more != 0) {
            Field cents = open(x, field);
            cents.setLong(x, cents.getLong(x) + more);
        }
        return x.isSound();
    }

    private static boolean spoiledPurse() throws ReflectiveOperationException {
        Nomdeplume x = house();
        Object person = Array.get(open(x, "persons").get(x), 0);
        Field cents = open(person, "cents");
        cents.setLong(person, cents.getLong(person) + 1);
        return x.isSound();
    }

    /** Person 2 is no hand of work 0, nor person 0 of work 2. */
    private static boolean spoiledWork(int number, String field, int person, int more) throws ReflectiveOperationException {
        Nomdeplume x = house();
        Object work = Array.get(open(x, "works").get(x), number);
        int[] row = (int[]) open(work, field).get(work);
        row[person] += more;
        return x.isSound();
    }

    private static Field open(Object owner, String name) throws ReflectiveOperationException {
        Field field = owner.getClass().getDeclaredField(name);
        field.setAccessible(true);
        return field;
    }
}
