import java.lang.reflect.Field;
import java.util.ArrayList;
import java.util.List;

/**
 * Promise 54. No run of calls leads to an office that is not sound, so this test makes such offices by its
 * knowledge of how Prereqs holds them; who changes that changes the few functions at the beginning. How the
 * state is held is free, so that a class that holds it otherwise is no fault: the test only says so.
 */
public final class SoundTest {
    private SoundTest() {
    }

    private static Object get(Object owner, String name) {
        try {
            Field field = fieldOf(owner.getClass(), name);
            return field.get(owner);
        } catch (ReflectiveOperationException missing) {
            throw new IllegalStateException(missing);
        }
    }

    private static Field fieldOf(Class<?> type, String name) throws NoSuchFieldException {
        Field field = type.getDeclaredField(name);
        field.setAccessible(true);
        return field;
    }

    private static Object student(Prereqs x, int student) {
        return ((List<?>) get(x, "students")).get(student);
    }

    private static void setTaking(Prereqs x, int student, int course, boolean isTaking) {
        ((boolean[]) get(student(x, student), "taking"))[course] = isTaking;
    }

    @SuppressWarnings("unchecked")
    private static void setWaiting(Prereqs x, int student, int course) {
        Object held = ((List<?>) get(x, "courses")).get(course);
        ((ArrayList<Object>) get(held, "waiting")).add(student(x, student));
    }

    private static boolean isHeldAsKnown() {
        Prereqs x = new Prereqs();
        x.addStudent(0);
        x.addCourse(1, 1);
        try {
            setTaking(x, 0, 0, false);
            setWaiting(x, 0, 0);
            return true;
        } catch (IllegalStateException | ClassCastException otherwise) {
            return false;
        }
    }

    private static Prereqs office() {
        Prereqs x = new Prereqs();
        for (int course = 0; course < 5; course++) {
            x.addCourse(5, 1);
        }
        x.addStudent(0);
        x.addStudent(0);
        x.addStudent(1);
        x.enroll(0, 0);
        x.enroll(1, 1);
        Check.due("54: as calls made it", x.isSound(), true);
        return x;
    }

    private static void tooManyEnrolled() {
        Prereqs x = office();
        setTaking(x, 1, 0, true);
        Check.due("54: two on one seat", x.isSound(), false);
    }

    private static void enrolledAndWaiting() {
        Prereqs x = office();
        setWaiting(x, 0, 0);
        Check.due("54: enrolled and waiting", x.isSound(), false);
    }

    private static void waitingWithoutNeed() {
        Prereqs x = office();
        setWaiting(x, 0, 2);
        Check.due("54: waiting for a free seat", x.isSound(), false);
        x.require(2, x.creditsFormula(1));
        Check.due("54: waiting for the requisite", x.isSound(), true);
    }

    private static void waitingWithNeed() {
        Prereqs x = office();
        setWaiting(x, 2, 0);
        Check.due("54: waiting for a seat", x.isSound(), true);
        setTaking(x, 0, 0, false);
        Check.due("54: the seat is free", x.isSound(), false);
        setTaking(x, 2, 1, true);
        setTaking(x, 1, 1, false);
        setTaking(x, 2, 2, true);
        setTaking(x, 2, 3, true);
        Check.due("54: too heavy for it", x.isSound(), true);
    }

    private static void tooHeavy() {
        Prereqs x = office();
        for (int course = 2; course < 5; course++) {
            setTaking(x, 0, course, true);
        }
        Check.due("54: a load of 20", x.isSound(), false);
        setTaking(x, 0, 4, false);
        Check.due("54: a load of 15", x.isSound(), true);
        x.addCourse(3, 1);
        x.enroll(0, 5);
        Check.due("54: a load of 18", x.isSound(), true);
        x.addCourse(1, 1);
        setTaking(x, 0, 6, true);
        Check.due("54: a load of 19", x.isSound(), false);
    }

    private static void audits() {
        Prereqs x = new Prereqs();
        x.addStudent(0);
        for (int course = 0; course < 4; course++) {
            x.addCourse(1, 1);
            x.moveIn(0, course);
        }
        for (int rule = 0; rule < 4; rule++) {
            x.addRule(0, 1 + rule % 3, 10 * rule);
            x.allow(rule, rule);
            x.allow(rule, 0);
            Check.due("54: rule " + rule, x.isSound(), true);
        }
    }

    public static void main(String[] arguments) {
        Check.due("54: new", new Prereqs().isSound(), true);
        audits();
        if (isHeldAsKnown()) {
            tooManyEnrolled();
            enrolledAndWaiting();
            waitingWithoutNeed();
            waitingWithNeed();
            tooHeavy();
        } else {
            System.out.println("not looked at, as Prereqs holds it otherwise: offices that are not sound");
        }
        Check.end();
    }
}
