/** Promises 1 to 6 and 17 to 19: a new object, courses, students, majors, reserved seats and days. */
public final class OfficeTest {
    private static final Class<IllegalArgumentException> ARGUMENT = IllegalArgumentException.class;
    private static final Class<IllegalStateException> STATE = IllegalStateException.class;
    private static final Class<IndexOutOfBoundsException> INDEX = IndexOutOfBoundsException.class;

    private static void newObject() {
        Prereqs x = new Prereqs();
        Check.due("1: day", x.day(), 0);
        Check.due("1: term", x.term(), 0);
        Check.due("1: allEarned", x.allEarned(), 0L);
        Check.due("1: isSound", x.isSound(), true);
        Check.dueThrow("1: no course", INDEX, () -> x.enrolled(0));
        Check.dueThrow("1: no student", INDEX, () -> x.majorOf(0));
        Check.dueThrow("1: no formula", java.util.NoSuchElementException.class, () -> x.noneFormula(0));
        Check.dueThrow("1: no rule", java.util.NoSuchElementException.class, () -> x.allow(0, 0));
    }

    private static void twoObjectsAreApart() {
        Prereqs x = new Prereqs();
        Prereqs y = new Prereqs();
        x.addCourse(1, 1);
        x.pass(2);
        Check.due("1: another object's day", y.day(), 0);
        Check.due("1: another object's first course", y.addCourse(2, 2), 0);
    }

    private static void addCourse() {
        Prereqs x = new Prereqs();
        Check.due("2: least", x.addCourse(1, 1), 0);
        Check.due("2: most", x.addCourse(6, 12), 1);
        for (int[] wrong : new int[][] {{0, 1}, {7, 1}, {1, 0}, {1, 13}, {-1, 5}, {5, Integer.MIN_VALUE}}) {
            Check.dueThrow("2: " + wrong[0] + ", " + wrong[1], ARGUMENT, () -> x.addCourse(wrong[0], wrong[1]));
        }
        for (int course = 2; course < 20; course++) {
            Check.due("2: one more", x.addCourse(3, 3), course);
        }
        Check.dueThrow("2: 21 courses", STATE, () -> x.addCourse(3, 3));
        Check.dueThrow("2: the range comes first", ARGUMENT, () -> x.addCourse(0, 3));
        int student = x.addStudent(0);
        Check.due("2: without a requisite", x.lift(19), false);
        Check.due("2: without a reserved seat", x.reserve(1, 3, 12), 0);
        Check.due("2: open to all", x.enroll(student, 19), 'e');
        Check.due("2: its credits", x.load(student), 3);
    }

    private static void addStudent() {
        Prereqs x = new Prereqs();
        x.addCourse(2, 2);
        Check.dueThrow("3: -1", ARGUMENT, () -> x.addStudent(-1));
        Check.dueThrow("3: 4", ARGUMENT, () -> x.addStudent(4));
        for (int student = 0; student < 16; student++) {
            Check.due("3: one more", x.addStudent(student % 4), student);
        }
        Check.dueThrow("3: 17 students", STATE, () -> x.addStudent(0));
        Check.dueThrow("3: the range comes first", ARGUMENT, () -> x.addStudent(4));
        Check.due("3: the major", x.majorOf(7), 3);
        Check.due("3: the record", x.transcriptLength(7), 0);
        Check.due("3: the load", x.load(7), 0);
        Check.due("3: the attempts", x.attempts(15, 0), 0);
    }

    private static void majors() {
        Prereqs x = new Prereqs();
        x.addStudent(2);
        x.addStudent(0);
        Check.due("4: before", x.changeMajor(0, 3), 2);
        Check.due("5: after", x.majorOf(0), 3);
        Check.due("5: of the other", x.majorOf(1), 0);
        Check.due("4: the same again", x.changeMajor(0, 3), 3);
        Check.dueThrow("4: student", INDEX, () -> x.changeMajor(2, 9));
        Check.dueThrow("4: student -1", INDEX, () -> x.changeMajor(-1, 0));
        Check.dueThrow("4: major", ARGUMENT, () -> x.changeMajor(1, 4));
        Check.dueThrow("4: major -1", ARGUMENT, () -> x.changeMajor(1, -1));
        Check.dueThrow("5: student", INDEX, () -> x.majorOf(2));
        Check.dueThrow("5: student -1", INDEX, () -> x.majorOf(-1));
    }

    private static void changeMajorKeepsPlacesAndLetsIn() {
        Prereqs x = new Prereqs();
        x.addCourse(2, 2);
        x.reserve(0, 1, 1);
        x.addStudent(0);
        x.addStudent(0);
        x.enroll(0, 0);
        Check.due("4: waits", x.enroll(1, 0), 'w');
        x.changeMajor(0, 2);
        Check.due("4: stays enrolled", x.isEnrolled(0, 0), true);
        Check.due("4: stays on the list", x.placeOf(1, 0), 0);
        x.changeMajor(1, 1);
        Check.due("4: the seat is given out by the call", x.isEnrolled(1, 0), true);
        Check.due("4: the list is left", x.waiting(0), 0);
    }

    private static void enrolledOfTheNewMajorFreeTheReserve() {
        Prereqs x = new Prereqs();
        x.addCourse(2, 2);
        x.reserve(0, 1, 1);
        x.addStudent(0);
        x.addStudent(0);
        x.enroll(0, 0);
        x.enroll(1, 0);
        x.changeMajor(0, 1);
        Check.due("4: the enrolled one counts for the reserve now", x.isEnrolled(1, 0), true);
    }

    private static void reserve() {
        Prereqs x = new Prereqs();
        x.addCourse(2, 5);
        x.addCourse(2, 1);
        Check.due("6: first", x.reserve(0, 1, 3), 0);
        Check.due("6: before", x.reserve(0, 1, 2), 3);
        Check.due("6: for another major", x.reserve(0, 3, 3), 0);
        Check.dueThrow("6: 6 of 5", STATE, () -> x.reserve(0, 0, 1));
        Check.dueThrow("6: 6 of 5 by a change", STATE, () -> x.reserve(0, 1, 3));
        Check.dueThrow("6: very many", STATE, () -> x.reserve(0, 1, Integer.MAX_VALUE));
        Check.due("6: unchanged by what throws", x.reserve(0, 1, 2), 2);
        Check.due("6: none", x.reserve(0, 1, 0), 2);
        Check.due("6: exactly all", x.reserve(0, 0, 2), 0);
        Check.dueThrow("6: those of major 0 count", STATE, () -> x.reserve(0, 1, 1));
        Check.dueThrow("6: course", INDEX, () -> x.reserve(2, 9, -1));
        Check.dueThrow("6: course -1", INDEX, () -> x.reserve(-1, 0, 0));
        Check.dueThrow("6: major", ARGUMENT, () -> x.reserve(0, 4, 99));
        Check.dueThrow("6: major -1", ARGUMENT, () -> x.reserve(0, -1, 0));
        Check.dueThrow("6: seats", ARGUMENT, () -> x.reserve(0, 0, -1));
        Check.dueThrow("6: least seats", ARGUMENT, () -> x.reserve(0, 0, Integer.MIN_VALUE));
    }

    private static void lesserReserveLetsIn() {
        Prereqs x = new Prereqs();
        x.addCourse(2, 1);
        x.reserve(0, 1, 1);
        x.addStudent(0);
        Check.due("6: waits for the reserved seat", x.enroll(0, 0), 'w');
        x.reserve(0, 1, 0);
        Check.due("6: the seat is given out", x.isEnrolled(0, 0), true);
        x.reserve(0, 3, 1);
        Check.due("6: enrolled students stay", x.enrolled(0), 1);
    }

    private static void days() {
        Prereqs x = new Prereqs();
        Check.due("17: one", x.pass(1), 1);
        Check.dueThrow("17: none", ARGUMENT, () -> x.pass(0));
        Check.dueThrow("17: less", ARGUMENT, () -> x.pass(Integer.MIN_VALUE));
        Check.dueThrow("17: one too many", STATE, () -> x.pass(30));
        Check.dueThrow("17: far too many", STATE, () -> x.pass(Integer.MAX_VALUE));
        Check.due("18: unchanged", x.day(), 1);
        Check.due("17: to the last day", x.pass(29), 30);
        Check.due("18: the last day", x.day(), 30);
        Check.dueThrow("17: behind the last day", STATE, () -> x.pass(1));
        Check.dueThrow("17: the argument comes first", ARGUMENT, () -> x.pass(0));
        Check.due("19: still", x.term(), 0);
        x.endTerm();
        Check.due("18: again", x.day(), 0);
        Check.due("19: next", x.term(), 1);
        x.pass(21);
        x.endTerm();
        Check.due("19: the one after", x.term(), 2);
    }

    private static void eachDayThatComesGivesSeats() {
        Prereqs x = new Prereqs();
        x.addCourse(2, 1);
        x.reserve(0, 1, 1);
        x.addStudent(0);
        x.enroll(0, 0);
        x.pass(3);
        Check.due("17: day 3 still reserves", x.isEnrolled(0, 0), false);
        x.pass(10);
        Check.due("17: day 4 gave the seat before day 6 emptied the list", x.isEnrolled(0, 0), true);
    }

    private static void daySixEmptiesTheLists() {
        Prereqs x = new Prereqs();
        x.addCourse(2, 1);
        x.addStudent(0);
        x.addStudent(0);
        x.enroll(0, 0);
        x.enroll(1, 0);
        x.addStudent(0);
        x.enroll(2, 0);
        x.pass(5);
        Check.due("17: day 5 keeps the list", x.waiting(0), 2);
        x.drop(0, 0);
        Check.due("17: day 5 still gives seats", x.isEnrolled(1, 0), true);
        x.pass(1);
        Check.due("17: day 6 empties it", x.waiting(0), 0);
        x.drop(1, 0);
        Check.due("17: no seat is given out", x.isEnrolled(2, 0), false);
    }

    public static void main(String[] arguments) {
        newObject();
        twoObjectsAreApart();
        addCourse();
        addStudent();
        majors();
        changeMajorKeepsPlacesAndLetsIn();
        enrolledOfTheNewMajorFreeTheReserve();
        reserve();
        lesserReserveLetsIn();
        days();
        eachDayThatComesGivesSeats();
        daySixEmptiesTheLists();
        Check.end();
    }
}
