import java.util.NoSuchElementException;

/** Promises 20 to 23 and 32 to 38: enrollment, drops and swaps, loads, seats and waiting lists. */
public final class EnrollmentTest {
    private static final Class<IllegalArgumentException> ARGUMENT = IllegalArgumentException.class;
    private static final Class<IllegalStateException> STATE = IllegalStateException.class;
    private static final Class<IndexOutOfBoundsException> INDEX = IndexOutOfBoundsException.class;
    private static final Class<NoSuchElementException> ELEMENT = NoSuchElementException.class;
    private static final Class<ArithmeticException> ARITHMETIC = ArithmeticException.class;
    private static final Class<UnsupportedOperationException> UNSUPPORTED = UnsupportedOperationException.class;

    private static Prereqs office(int students, int... creditsAndSeats) {
        Prereqs x = new Prereqs();
        for (int i = 0; i + 1 < creditsAndSeats.length; i += 2) {
            x.addCourse(creditsAndSeats[i], creditsAndSeats[i + 1]);
        }
        for (int student = 0; student < students; student++) {
            x.addStudent(0);
        }
        return x;
    }

    private static void endTerm(Prereqs x) {
        x.pass(21 - x.day());
        x.endTerm();
    }

    private static void dueOutcome(Prereqs x, int student, int course, char letter) {
        Check.due("21: " + letter, x.outcome(student, course), letter);
        Class<? extends RuntimeException> thrown = null;
        switch (letter) {
            case 'd':
                thrown = STATE;
                break;
            case 'i':
                thrown = ARGUMENT;
                break;
            case 'r':
            case 'a':
                thrown = UNSUPPORTED;
                break;
            case 'c':
                thrown = ARITHMETIC;
                break;
            case 'f':
                thrown = ELEMENT;
                break;
            default:
                Check.due("20: " + letter, x.enroll(student, course), letter);
                return;
        }
        int load = x.load(student);
        int waiting = x.waiting(course);
        Check.dueThrow("20: " + letter, thrown, () -> x.enroll(student, course));
        Check.due("20: load unchanged by what throws", x.load(student), load);
        Check.due("20: list unchanged by what throws", x.waiting(course), waiting);
    }

    private static void enrollInOrder() {
        Prereqs x = office(9, 6, 1, 6, 12, 6, 12, 1, 12);
        dueOutcome(x, 0, 0, 'e');
        dueOutcome(x, 0, 0, 'i');
        for (int student = 1; student <= 6; student++) {
            dueOutcome(x, student, 0, 'w');
            Check.due("36: behind the others", x.placeOf(student, 0), student - 1);
        }
        Check.due("35: six wait", x.waiting(0), 6);
        dueOutcome(x, 1, 0, 'i');
        dueOutcome(x, 7, 0, 'f');
        int no = x.creditsFormula(1);
        x.require(0, no);
        dueOutcome(x, 7, 0, 'r');
        dueOutcome(x, 1, 0, 'i');
        x.lift(0);
        dueOutcome(x, 7, 1, 'e');
        dueOutcome(x, 7, 2, 'e');
        dueOutcome(x, 7, 3, 'e');
        dueOutcome(x, 7, 0, 'c');
        x.require(0, no);
        dueOutcome(x, 7, 0, 'r');
        x.pass(5);
        dueOutcome(x, 0, 2, 'e');
        x.pass(1);
        dueOutcome(x, 0, 3, 'd');
        dueOutcome(x, 0, 0, 'd');
        Check.dueThrow("20: student", INDEX, () -> x.enroll(9, 0));
        Check.dueThrow("20: student -1", INDEX, () -> x.enroll(-1, 0));
        Check.dueThrow("20: course", INDEX, () -> x.enroll(0, 4));
        Check.dueThrow("20: course -1", INDEX, () -> x.enroll(0, -1));
        Check.dueThrow("21: student", INDEX, () -> x.outcome(9, 0));
        Check.dueThrow("21: student -1", INDEX, () -> x.outcome(-1, 0));
        Check.dueThrow("21: course", INDEX, () -> x.outcome(0, 4));
        Check.dueThrow("21: course -1", INDEX, () -> x.outcome(0, -1));
    }

    private static void threeAttempts() {
        Prereqs x = office(2, 6, 1, 6, 5, 6, 5, 6, 5);
        for (int attempt = 0; attempt < 3; attempt++) {
            dueOutcome(x, 0, 0, 'e');
            endTerm(x);
        }
        Check.due("28: three", x.attempts(0, 0), 3);
        dueOutcome(x, 0, 0, 'a');
        for (int course = 1; course <= 3; course++) {
            x.enroll(0, course);
        }
        dueOutcome(x, 0, 0, 'a');
        x.enroll(1, 0);
        dueOutcome(x, 0, 0, 'a');
        x.require(0, x.creditsFormula(99));
        dueOutcome(x, 0, 0, 'r');
        x.lift(0);
        Check.dueThrow("23: three attempts", UNSUPPORTED, () -> x.swap(0, 1, 0));
        x.drop(1, 0);
        Check.dueThrow("23: three attempts and a free seat", UNSUPPORTED, () -> x.swap(0, 1, 0));
        Check.due("23: unchanged by what throws", x.load(0), 18);
    }

    private static void loads() {
        Prereqs x = office(2, 6, 9, 6, 9, 5, 9, 1, 9, 1, 9);
        for (int course = 0; course < 3; course++) {
            dueOutcome(x, 0, course, 'e');
        }
        Check.due("32: 17", x.load(0), 17);
        dueOutcome(x, 0, 3, 'e');
        Check.due("32: 18", x.load(0), 18);
        dueOutcome(x, 0, 4, 'c');
        Check.due("32: of the other", x.load(1), 0);
        x.drop(0, 1);
        Check.due("32: after a drop", x.load(0), 12);
        endTerm(x);
        Check.due("32: after the term", x.load(0), 0);
        Check.dueThrow("32: student", INDEX, () -> x.load(2));
        Check.dueThrow("32: student -1", INDEX, () -> x.load(-1));
    }

    private static void drop() {
        Prereqs x = office(3, 2, 1, 2, 2);
        x.enroll(0, 0);
        x.enroll(1, 0);
        x.enroll(2, 0);
        Check.due("22: leaves the list", x.drop(1, 0), 'l');
        Check.due("36: the next one moves up", x.placeOf(2, 0), 0);
        Check.dueThrow("22: has left", ELEMENT, () -> x.drop(1, 0));
        Check.due("22: drops", x.drop(0, 0), 'd');
        Check.due("22: the first waiting one is in", x.isEnrolled(2, 0), true);
        x.enroll(0, 1);
        x.enroll(1, 1);
        x.pass(8);
        Check.due("22: day 8", x.drop(0, 1), 'd');
        Check.due("22: without an attempt", x.attempts(0, 1), 0);
        x.pass(1);
        Check.due("22: day 9", x.drop(1, 1), 'w');
        Check.due("22: with an attempt", x.attempts(1, 1), 1);
        Check.dueThrow("22: a withdrawal is no mark", ELEMENT, () -> x.bestMark(1, 1));
        x.pass(11);
        Check.dueThrow("22: student", INDEX, () -> x.drop(3, 0));
        Check.dueThrow("22: student -1", INDEX, () -> x.drop(-1, 0));
        Check.dueThrow("22: course", INDEX, () -> x.drop(0, 2));
        Check.dueThrow("22: course -1", INDEX, () -> x.drop(0, -1));
        x.pass(1);
        Check.dueThrow("22: day 21", STATE, () -> x.drop(2, 0));
        Check.dueThrow("22: day 21, not enrolled", ELEMENT, () -> x.drop(1, 0));
        Check.due("22: stays enrolled", x.isEnrolled(2, 0), true);
    }

    private static void dropOnDayTwenty() {
        Prereqs x = office(1, 2, 1);
        x.enroll(0, 0);
        x.pass(20);
        Check.due("22: day 20", x.drop(0, 0), 'w');
        Check.due("22: a withdrawal on day 20", x.transcriptLength(0), 4);
    }

    /** Course 1 wants course 0 and course 2 wants course 1; student 0 is in all of them and in course 4. */
    private static Prereqs chain() {
        Prereqs x = office(2, 2, 2, 3, 1, 4, 2, 5, 2, 1, 2);
        x.require(1, x.togetherFormula(0));
        x.require(2, x.togetherFormula(1));
        x.enroll(0, 0);
        x.enroll(0, 1);
        x.enroll(0, 2);
        x.enroll(0, 4);
        return x;
    }

    private static void dropEndsOthers() {
        Prereqs x = chain();
        x.enroll(1, 0);
        Check.due("22: waits for the course that will end", x.enroll(1, 1), 'w');
        Check.due("22: the first of the chain", x.drop(0, 0), 'd');
        Check.due("22: the second ended", x.isEnrolled(0, 1), false);
        Check.due("22: the third ended", x.isEnrolled(0, 2), false);
        Check.due("22: the one beside it goes on", x.isEnrolled(0, 4), true);
        Check.due("22: an ended course lets others in", x.isEnrolled(1, 1), true);
        Check.due("22: no attempts", x.attempts(0, 2), 0);
    }

    private static void withdrawalEndsOthers() {
        Prereqs x = chain();
        x.pass(9);
        x.drop(0, 0);
        Check.due("22: the dropped one", x.attempts(0, 0), 1);
        Check.due("22: the second", x.attempts(0, 1), 1);
        Check.due("22: the third", x.attempts(0, 2), 1);
        Check.due("22: not the one beside it", x.attempts(0, 4), 0);
        Check.due("22: withdrawals", x.transcriptLength(0), 12);
    }

    private static void dropEndsWhatNeverHeld() {
        Prereqs x = office(1, 2, 2, 2, 2, 2, 2);
        x.enroll(0, 0);
        x.enroll(0, 1);
        x.enroll(0, 2);
        x.require(0, x.creditsFormula(1));
        Check.due("22: a requisite ends nothing by itself", x.load(0), 6);
        x.drop(0, 2);
        Check.due("22: what did not hold before ends too", x.isEnrolled(0, 0), false);
        Check.due("22: the rest goes on", x.isEnrolled(0, 1), true);
    }

    private static void lowestCourseEndsFirst() {
        Prereqs x = office(1, 2, 2, 2, 2, 2, 2);
        x.enroll(0, 0);
        x.enroll(0, 1);
        x.enroll(0, 2);
        int zero = x.togetherFormula(0);
        int one = x.togetherFormula(1);
        int two = x.togetherFormula(2);
        // Without course 2 both fail; once course 0 has ended, the requisite of course 1 holds again.
        x.require(0, two);
        x.require(1, x.anyFormula(two, x.noneFormula(zero)));
        x.drop(0, 2);
        Check.due("22: course 0 ends first", x.isEnrolled(0, 0), false);
        Check.due("22: course 1 goes on then", x.isEnrolled(0, 1), true);
        Check.due("22: it is alone", x.holds(0, one), true);
        Check.due("22: the load is its own", x.load(0), 2);
    }

    private static void leavingAListEndsNothing() {
        Prereqs x = office(2, 2, 2, 2, 1);
        x.enroll(1, 1);
        x.enroll(0, 0);
        x.enroll(0, 1);
        x.require(0, x.creditsFormula(1));
        Check.due("22: leaves the list", x.drop(0, 1), 'l');
        Check.due("22: nothing ends by it", x.isEnrolled(0, 0), true);
    }

    private static void seatsComeAfterAllEnds() {
        Prereqs x = office(1, 6, 2, 6, 2, 6, 1, 6, 1);
        x.addStudent(0);
        x.enroll(1, 3);
        x.enroll(0, 3);
        x.enroll(0, 0);
        x.enroll(0, 1);
        // Course 1 fails as long as its student is not in course 3, which it would enter between the ends.
        x.enroll(0, 2);
        x.require(1, x.togetherFormula(2));
        x.drop(1, 3);
        Check.due("22: the load forbids the seat", x.isEnrolled(0, 3), false);
        x.require(1, x.anyFormula(0, x.togetherFormula(3)));
        x.drop(0, 2);
        Check.due("22: course 1 ended before the seat was given", x.isEnrolled(0, 1), false);
        Check.due("22: then the seat is given", x.isEnrolled(0, 3), true);
    }

    private static void swap() {
        Prereqs x = office(3, 2, 2, 3, 2, 4, 1);
        x.enroll(0, 0);
        Check.due("23: the load", x.swap(0, 0, 1), 3);
        Check.due("23: dropped", x.isEnrolled(0, 0), false);
        Check.due("23: enrolled", x.isEnrolled(0, 1), true);
        Check.due("23: no attempt", x.attempts(0, 0), 0);
        x.enroll(1, 2);
        Check.dueThrow("23: no free seat", UNSUPPORTED, () -> x.swap(0, 1, 2));
        Check.due("23: still enrolled", x.isEnrolled(0, 1), true);
        Check.dueThrow("23: not enrolled", ELEMENT, () -> x.swap(0, 0, 1));
        Check.dueThrow("23: not enrolled, the same", ELEMENT, () -> x.swap(0, 0, 0));
        Check.dueThrow("23: the same", ARGUMENT, () -> x.swap(0, 1, 1));
        x.enroll(0, 0);
        Check.dueThrow("23: enrolled in the other", ARGUMENT, () -> x.swap(0, 0, 1));
        Check.dueThrow("23: student", INDEX, () -> x.swap(3, 0, 1));
        Check.dueThrow("23: student -1", INDEX, () -> x.swap(-1, 0, 1));
        Check.dueThrow("23: from", INDEX, () -> x.swap(0, 3, 1));
        Check.dueThrow("23: from -1", INDEX, () -> x.swap(0, -1, 1));
        Check.dueThrow("23: to", INDEX, () -> x.swap(0, 0, 3));
        Check.dueThrow("23: to -1", INDEX, () -> x.swap(0, 0, -1));
        x.drop(1, 2);
        x.pass(5);
        Check.due("23: day 5", x.swap(0, 0, 2), 7);
        x.pass(1);
        Check.dueThrow("23: day 6", STATE, () -> x.swap(0, 2, 0));
        Check.dueThrow("23: day 6 comes first", STATE, () -> x.swap(0, 0, 0));
        Check.dueThrow("23: the index comes first", INDEX, () -> x.swap(0, 2, 9));
    }

    private static void swapLeavesTheList() {
        Prereqs x = office(2, 2, 1, 6, 1, 6, 9, 6, 9);
        x.enroll(0, 0);
        x.enroll(1, 1);
        x.enroll(1, 2);
        x.enroll(1, 3);
        Check.dueThrow("20: too heavy to wait", ARITHMETIC, () -> x.enroll(1, 0));
        x.drop(1, 3);
        Check.due("20: waits", x.enroll(1, 0), 'w');
        x.enroll(1, 3);
        x.drop(0, 0);
        Check.due("20: too heavy for the seat", x.isEnrolled(1, 0), false);
        Check.due("23: from the list into the course", x.swap(1, 2, 0), 14);
        Check.due("23: the list is left", x.waiting(0), 0);
        Check.due("23: enrolled", x.isEnrolled(1, 0), true);
    }

    private static void swapOfTooMuch() {
        Prereqs x = office(1, 5, 9, 5, 9, 5, 9, 3, 9, 4, 9);
        for (int course = 0; course < 4; course++) {
            x.enroll(0, course);
        }
        Check.dueThrow("23: 19", ARITHMETIC, () -> x.swap(0, 3, 4));
        Check.due("23: unchanged", x.isEnrolled(0, 3), true);
        Check.due("23: unchanged load", x.load(0), 18);
        Check.due("23: 17", x.swap(0, 0, 4), 17);
        Check.due("23: 18", x.swap(0, 4, 0), 18);
    }

    private static void swapEndsOthers() {
        Prereqs x = chain();
        x.require(3, x.noneFormula(x.togetherFormula(2)));
        Check.due("23: held up by course 2 until it ends", x.outcome(0, 3), 'r');
        Check.due("23: all that ended counts", x.swap(0, 0, 3), 6);
        Check.due("23: the second ended", x.isEnrolled(0, 1), false);
        Check.due("23: the third ended", x.isEnrolled(0, 2), false);
    }

    private static void swapIsUndoneWhole() {
        Prereqs x = chain();
        x.require(3, x.togetherFormula(2));
        Check.due("23: course 2 lets it in", x.outcome(0, 3), 'e');
        Check.dueThrow("23: not when it has ended", UNSUPPORTED, () -> x.swap(0, 0, 3));
        for (int course : new int[] {0, 1, 2, 4}) {
            Check.due("23: course " + course + " goes on", x.isEnrolled(0, course), true);
        }
    }

    private static void swapGivesNoSeatsBetween() {
        Prereqs x = office(2, 6, 1, 6, 1, 6, 5, 6, 5);
        x.enroll(0, 0);
        x.enroll(1, 1);
        x.enroll(0, 2);
        x.enroll(0, 1);
        x.enroll(1, 0);
        x.enroll(0, 3);
        x.drop(1, 1);
        Check.due("23: full load, a seat for which it waits", x.freeSeats(1, 0), 1);
        Check.due("23: takes the seat by the swap itself", x.swap(0, 0, 1), 18);
        Check.due("23: the dropped seat is given out", x.isEnrolled(1, 0), true);
    }

    private static void swapAnswersTheLoadAfterAll() {
        Prereqs x = office(2, 6, 9, 1, 9, 6, 9, 6, 9, 5, 1);
        x.enroll(1, 4);
        x.enroll(0, 4);
        x.enroll(0, 0);
        x.enroll(0, 2);
        x.enroll(0, 3);
        x.drop(1, 4);
        Check.due("23: a seat that it can't take yet", x.freeSeats(4, 0), 1);
        Check.due("23: the seat that it gets by the end counts", x.swap(0, 0, 1), 18);
        Check.due("23: it has got it", x.isEnrolled(0, 4), true);
    }

    private static void lists() {
        Prereqs x = office(5, 3, 1, 3, 1);
        x.enroll(0, 0);
        for (int student = 1; student < 4; student++) {
            x.enroll(student, 0);
        }
        int no = x.creditsFormula(3);
        x.require(0, no);
        x.drop(0, 0);
        Check.due("35: nobody can take the seat", x.waiting(0), 3);
        Check.due("34: nobody is enrolled", x.enrolled(0), 0);
        x.moveIn(2, 1);
        Check.due("20: the first who can take it gets it", x.isEnrolled(2, 0), true);
        Check.due("36: those before it keep their places", x.placeOf(1, 0), 0);
        Check.due("36: those behind it move up", x.placeOf(3, 0), 1);
        Check.dueThrow("36: no more on it", ELEMENT, () -> x.placeOf(2, 0));
        Check.dueThrow("36: never on it", ELEMENT, () -> x.placeOf(4, 0));
        Check.dueThrow("36: student", INDEX, () -> x.placeOf(5, 0));
        Check.dueThrow("36: student -1", INDEX, () -> x.placeOf(-1, 0));
        Check.dueThrow("36: course", INDEX, () -> x.placeOf(0, 2));
        Check.dueThrow("36: course -1", INDEX, () -> x.placeOf(0, -1));
        Check.dueThrow("35: course", INDEX, () -> x.waiting(2));
        Check.dueThrow("35: course -1", INDEX, () -> x.waiting(-1));
    }

    private static void lowestCourseGivesFirst() {
        Prereqs x = office(2, 6, 1, 6, 1, 6, 1, 6, 5, 6, 5);
        x.enroll(1, 0);
        x.enroll(1, 1);
        x.enroll(0, 3);
        x.enroll(0, 1);
        x.enroll(0, 0);
        x.enroll(0, 4);
        int never = x.creditsFormula(9);
        x.require(0, never);
        x.require(1, never);
        x.drop(1, 0);
        Check.due("20: the end took the other course too", x.load(1), 0);
        int now = x.creditsFormula(6);
        x.require(1, now);
        x.require(0, now);
        x.moveIn(0, 2);
        Check.due("20: only one seat fits the load", x.load(0), 18);
        Check.due("20: it is that of course 0", x.isEnrolled(0, 0), true);
        Check.due("20: it waits for course 1", x.placeOf(0, 1), 0);
    }

    private static void aSeatLetsIntoALowerCourse() {
        Prereqs x = office(3, 3, 1, 3, 1, 3, 9);
        x.enroll(2, 0);
        x.enroll(2, 1);
        x.enroll(0, 0);
        x.enroll(0, 1);
        x.enroll(1, 1);
        x.require(0, x.togetherFormula(1));
        x.require(1, x.togetherFormula(2));
        x.drop(2, 0);
        Check.due("20: nobody can take a seat", x.enrolled(0) + x.enrolled(1), 0);
        x.enroll(0, 2);
        Check.due("20: course 1 by course 2", x.isEnrolled(0, 1), true);
        Check.due("20: course 0 by course 1", x.isEnrolled(0, 0), true);
        Check.due("20: the other waits", x.placeOf(1, 1), 0);
    }

    private static void freeSeats() {
        Prereqs x = office(0, 1, 5);
        x.reserve(0, 1, 2);
        x.reserve(0, 2, 1);
        int[] majors = {1, 1, 1, 0};
        for (int major : majors) {
            x.addStudent(major);
        }
        Check.due("37: 5 - 2 - 1", x.freeSeats(0, 0), 2);
        Check.due("37: 5 - 1", x.freeSeats(0, 1), 4);
        Check.due("37: 5 - 2", x.freeSeats(0, 2), 3);
        Check.due("37: 5 - 2 - 1 again", x.freeSeats(0, 3), 2);
        x.enroll(0, 0);
        Check.due("37: 4 - 1 - 1", x.freeSeats(0, 0), 2);
        Check.due("37: 4 - 1", x.freeSeats(0, 2), 3);
        x.enroll(1, 0);
        x.enroll(2, 0);
        Check.due("37: more than the reserve counts once", x.freeSeats(0, 0), 1);
        x.enroll(3, 0);
        Check.due("37: the last one is reserved", x.freeSeats(0, 0), 0);
        Check.due("37: for major 2", x.freeSeats(0, 2), 1);
        x.pass(3);
        Check.due("37: day 3", x.freeSeats(0, 0), 0);
        x.pass(1);
        Check.due("37: day 4", x.freeSeats(0, 0), 1);
        Check.dueThrow("37: course", INDEX, () -> x.freeSeats(1, 4));
        Check.dueThrow("37: course -1", INDEX, () -> x.freeSeats(-1, 0));
        Check.dueThrow("37: major", ARGUMENT, () -> x.freeSeats(0, 4));
        Check.dueThrow("37: major -1", ARGUMENT, () -> x.freeSeats(0, -1));
    }

    private static void freeSeatsBesideMajorZero() {
        Prereqs x = office(1, 1, 5);
        x.reserve(0, 0, 2);
        Check.due("37: 5 - 2 of major 0", x.freeSeats(0, 3), 3);
        x.enroll(0, 0);
        Check.due("37: 4 - 1 of major 0", x.freeSeats(0, 1), 3);
        Check.due("37: for major 0", x.freeSeats(0, 0), 4);
    }

    private static void freeSeatsAreNeverLess() {
        Prereqs x = office(2, 1, 2);
        x.enroll(0, 0);
        x.enroll(1, 0);
        x.reserve(0, 1, 2);
        Check.due("37: 2 - 2 - 2", x.freeSeats(0, 0), 0);
        Check.due("37: for the major itself", x.freeSeats(0, 1), 0);
    }

    private static void enrolledAndShare() {
        Prereqs x = office(3, 1, 3, 1, 7);
        Check.due("38: none", x.share(0), 0.0f);
        x.enroll(0, 0);
        Check.due("34: one", x.enrolled(0), 1);
        Check.due("38: a third", x.share(0), 1.0f / 3.0f);
        x.enroll(1, 0);
        x.enroll(2, 0);
        Check.due("34: three", x.enrolled(0), 3);
        Check.due("38: all", x.share(0), 1.0f);
        x.enroll(0, 1);
        x.enroll(1, 1);
        Check.due("38: two of seven", x.share(1), 2.0f / 7.0f);
        Check.due("33: is", x.isEnrolled(1, 1), true);
        Check.due("33: is not", x.isEnrolled(2, 1), false);
        Check.dueThrow("33: student", INDEX, () -> x.isEnrolled(3, 0));
        Check.dueThrow("33: student -1", INDEX, () -> x.isEnrolled(-1, 0));
        Check.dueThrow("33: course", INDEX, () -> x.isEnrolled(0, 2));
        Check.dueThrow("33: course -1", INDEX, () -> x.isEnrolled(0, -1));
        Check.dueThrow("34: course", INDEX, () -> x.enrolled(2));
        Check.dueThrow("34: course -1", INDEX, () -> x.enrolled(-1));
        Check.dueThrow("38: course", INDEX, () -> x.share(2));
        Check.dueThrow("38: course -1", INDEX, () -> x.share(-1));
        endTerm(x);
        Check.due("34: after the term", x.enrolled(0), 0);
        Check.due("33: after the term", x.isEnrolled(1, 1), false);
    }

    public static void main(String[] arguments) {
        enrollInOrder();
        threeAttempts();
        loads();
        drop();
        dropOnDayTwenty();
        dropEndsOthers();
        withdrawalEndsOthers();
        dropEndsWhatNeverHeld();
        lowestCourseEndsFirst();
        leavingAListEndsNothing();
        seatsComeAfterAllEnds();
        swap();
        swapLeavesTheList();
        swapOfTooMuch();
        swapEndsOthers();
        swapIsUndoneWhole();
        swapGivesNoSeatsBetween();
        swapAnswersTheLoadAfterAll();
        lists();
        lowestCourseGivesFirst();
        aSeatLetsIntoALowerCourse();
        freeSeats();
        freeSeatsBesideMajorZero();
        freeSeatsAreNeverLess();
        enrolledAndShare();
        Check.end();
    }
}
