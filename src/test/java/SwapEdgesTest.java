import java.util.function.Supplier;

/** The edges of promise 23, sentence by sentence: swaps, and that a refused one leaves all as it was. */
public final class SwapEdgesTest {
    private SwapEdgesTest() {
    }

    /**
     * Student 0 is in course 0 (3 credits) and in 1 (4), 2 (2) is open, 3 (2) is full by student 1, and the
     * students 2 and 0 wait for it. Formula 0 is never true.
     */
    private static Prereqs swaps() {
        Prereqs x = Edges.office(4, 3, 2, 4, 2, 2, 2, 2, 1);
        x.creditsFormula(99);
        x.enroll(0, 0);
        x.enroll(0, 1);
        x.enroll(1, 3);
        x.enroll(2, 3);
        x.enroll(0, 3);
        return x;
    }

    private static Prereqs swapsOnDay(int day) {
        return Edges.onDay(day, swaps());
    }

    private static Prereqs swapsAsking(int course) {
        Prereqs x = swaps();
        x.require(course, 0);
        return x;
    }

    /** Student 0 is in the courses 0 to 2 of these credits; 3 has 6 credits, 4 has 5, 5 has 6 and is full. */
    private static Prereqs heavy(int first, int second, int third) {
        Prereqs x = Edges.office(3, first, 2, second, 2, third, 2, 6, 2, 5, 2, 6, 1);
        x.creditsFormula(99);
        x.enroll(1, 5);
        for (int course = 0; course < 3; course++) {
            x.enroll(0, course);
        }
        return x;
    }

    /** Student 0 has these attempts in course 2, and is in course 0 (and in course 1) now. */
    private static Prereqs tried(int... marks) {
        Prereqs x = Edges.study(Edges.office(2, 1, 2, 6, 2, 6, 1, 6, 2, 6, 2), 0, 2, marks);
        x.enroll(0, 0);
        x.enroll(0, 1);
        return x;
    }

    /** As tried(1, 2, 3), with a load of 18. */
    private static Prereqs triedAndHeavy() {
        Prereqs x = Edges.study(Edges.office(2, 1, 2, 6, 2, 6, 1, 6, 2, 5, 2), 0, 2, 1, 2, 3);
        for (int course : new int[] {0, 1, 3, 4}) {
            x.enroll(0, course);
        }
        return x;
    }

    private static void noSuch() {
        Edges.sentence(23, "Throws `IndexOutOfBoundsException` if there is no such student, or no such course, "
                + "for either");
        Supplier<Prereqs> maker = SwapEdgesTest::swaps;
        Edges.refusedBeyond(0, 3, Edges.INDEX, maker, (x, number) -> x.swap(number, 0, 2));
        Edges.refusedBeyond(0, 3, Edges.INDEX, maker, (x, number) -> x.swap(0, number, 2));
        Edges.refusedBeyond(0, 3, Edges.INDEX, maker, (x, number) -> x.swap(0, 0, number));
        Edges.due("the last course can be left", lastFromOne().swap(3, 3, 0), 1);
        Edges.due("the last course can be entered", lastFromOne().swap(2, 0, 3), 2);
    }

    private static Prereqs lastFromOne() {
        Prereqs x = Edges.office(4, 1, 9, 1, 9, 1, 9, 2, 9);
        x.enroll(3, 3);
        x.enroll(2, 0);
        return x;
    }

    private static void days() {
        Edges.sentence(23, "Throws `IllegalStateException` if the day is greater than 5");
        for (int day = 0; day <= 5; day++) {
            Edges.due("day " + day, swapsOnDay(day).swap(0, 0, 2), 6);
        }
        for (int day : new int[] {6, 7, 8, 9, 20, 21, 30}) {
            Edges.refused("day " + day, Edges.STATE, () -> swapsOnDay(day), x -> x.swap(0, 0, 2));
        }
    }

    private static void notEnrolled() {
        Edges.sentence(23, "Throws `NoSuchElementException` if the student is not enrolled in the course "
                + "that is to be dropped");
        Edges.refused("never", Edges.ELEMENT, SwapEdgesTest::swaps, x -> x.swap(3, 0, 2));
        Edges.refused("waiting", Edges.ELEMENT, SwapEdgesTest::swaps, x -> x.swap(0, 3, 2));
        Edges.refused("swapped away", Edges.ELEMENT, SwapEdgesTest::swapped, x -> x.swap(0, 0, 3));
        Edges.refused("another student's", Edges.ELEMENT, SwapEdgesTest::swaps, x -> x.swap(1, 0, 2));
    }

    private static Prereqs swapped() {
        Prereqs x = swaps();
        x.swap(0, 0, 2);
        return x;
    }

    private static void enrolledInTheOther() {
        Edges.sentence(23, "Throws `IllegalArgumentException` if the student is enrolled in the other course, "
                + "or both courses are the same");
        Edges.refused("the same", Edges.ARGUMENT, SwapEdgesTest::swaps, x -> x.swap(0, 0, 0));
        Edges.refused("enrolled", Edges.ARGUMENT, SwapEdgesTest::swaps, x -> x.swap(0, 0, 1));
        Edges.refused("enrolled, the other way", Edges.ARGUMENT, SwapEdgesTest::swaps, x -> x.swap(0, 1, 0));
        Edges.due("and back again", swapped().swap(0, 2, 0), 7);
    }

    private static void requisites() {
        Edges.sentence(23, "Throws `UnsupportedOperationException` if, after the drop and all that ends with it, the "
                + "requisite of the other course does not hold for the student, or the student has three attempts in "
                + "it, or there is no free seat in it for the major of the student");
        Edges.refused("the requisite", Edges.UNSUPPORTED, () -> swapsAsking(2), x -> x.swap(0, 0, 2));
        Edges.refused("it held by the dropped one", Edges.UNSUPPORTED, () -> asks(0), x -> x.swap(0, 0, 4));
        Edges.refused("it held by the first that ended", Edges.UNSUPPORTED, () -> asks(1), x -> x.swap(0, 0, 4));
        Edges.refused("it held by the last that ended", Edges.UNSUPPORTED, () -> asks(2), x -> x.swap(0, 0, 4));
        Edges.due("it holds by one that goes on", asks(3).swap(0, 0, 4), 2);
        Edges.due("nothing of it ended", asks(1).swap(0, 2, 4), 4);
        for (int course = 0; course < 3; course++) {
            Edges.due("it holds as " + course + " has ended", forbids(course).swap(0, 0, 4), 2);
        }
        Edges.refused("not as 3 goes on", Edges.UNSUPPORTED, () -> forbids(3), x -> x.swap(0, 0, 4));
    }

    /** Student 0 is in the courses 0 to 3, of which 1 wants 0, and 2 wants 1; all courses have 1 credit. */
    private static Prereqs chain() {
        Prereqs x = Edges.office(2, 1, 1, 1, 1, 1, 1, 1, 1, 1, 1);
        for (int course = 0; course < 4; course++) {
            x.enroll(0, course);
        }
        x.require(1, x.togetherFormula(0));
        x.require(2, x.togetherFormula(1));
        x.enroll(1, 0);
        return x;
    }

    private static Prereqs asks(int course) {
        Prereqs x = chain();
        x.require(4, x.togetherFormula(course));
        return x;
    }

    private static Prereqs forbids(int course) {
        Prereqs x = chain();
        x.require(4, x.noneFormula(x.togetherFormula(course)));
        return x;
    }

    /** Of 20 courses student 0 is in the last 18, each of which wants the next one but the last. */
    private static Prereqs longChain() {
        Prereqs x = new Prereqs();
        for (int course = 0; course < 20; course++) {
            x.addCourse(1, 1);
        }
        x.addStudent(0);
        for (int course = 2; course < 20; course++) {
            x.enroll(0, course);
            x.togetherFormula(course);
        }
        for (int course = 2; course < 19; course++) {
            x.require(course, course - 1);
        }
        x.require(0, 17);
        return x;
    }

    private static void allThatEndedIsBack() {
        Edges.sentence(0, "A method that throws an exception changes nothing");
        Prereqs x = longChain();
        Edges.due("refused", Picture.answerOf(x, y -> y.swap(0, 19, 0)), "UnsupportedOperationException");
        for (int course = 2; course < 20; course++) {
            Edges.due("23: still in " + course, x.isEnrolled(0, course), true);
        }
        Edges.due("23: the load", x.load(0), 18);
        Edges.refused("23: after 18 ends", Edges.UNSUPPORTED, SwapEdgesTest::longChain, y -> y.swap(0, 19, 0));
        Edges.due("23: all end if it is not refused", longChain().swap(0, 19, 1), 1);
    }

    private static void attempts() {
        Edges.sentence(23, "the student has three attempts in it");
        Edges.due("two", tried(1, -1).swap(0, 0, 2), 12);
        Edges.refused("three", Edges.UNSUPPORTED, () -> tried(1, 2, 3), x -> x.swap(0, 0, 2));
        Edges.refused("three withdrawals", Edges.UNSUPPORTED, () -> tried(-1, -1, -1), x -> x.swap(0, 0, 2));
        Edges.due("three in the one that is left", triedElsewhere().swap(0, 0, 1), 6);
    }

    private static Prereqs triedElsewhere() {
        Prereqs x = Edges.study(Edges.office(1, 6, 1, 6, 1), 0, 0, 1, 2);
        x.enroll(0, 0);
        return x;
    }

    private static void freeSeats() {
        Edges.sentence(23, "there is no free seat in it for the major of the student");
        Edges.due("the last seat", seats(2, 1).swap(0, 0, 1), 1);
        Edges.refused("no seat", Edges.UNSUPPORTED, () -> seats(1, 1), x -> x.swap(0, 0, 1));
        Edges.refused("no seat, waiting for it", Edges.UNSUPPORTED, SwapEdgesTest::swaps, x -> x.swap(0, 0, 3));
        Edges.refused("reserved on day 3", Edges.UNSUPPORTED, () -> reserved(3), x -> x.swap(0, 0, 1));
        Edges.due("no more reserved on day 4", reserved(4).swap(0, 0, 1), 1);
        Prereqs x = reserved(0);
        x.changeMajor(0, 1);
        Edges.due("reserved for its own major", x.swap(0, 0, 1), 1);
    }

    /** Student 0 is in course 0, and course 1 has so many seats, of which some are taken. */
    private static Prereqs seats(int seats, int taken) {
        Prereqs x = Edges.office(4, 1, 9, 1, seats);
        x.enroll(0, 0);
        for (int student = 1; student <= taken; student++) {
            x.enroll(student, 1);
        }
        return x;
    }

    private static Prereqs reserved(int day) {
        Prereqs x = seats(2, 1);
        x.reserve(1, 1, 1);
        return Edges.onDay(day, x);
    }

    private static void loads() {
        Edges.sentence(23, "Throws `ArithmeticException` if, after the drop and all that ends with it, the load of the "
                + "student plus the credits of the other course is greater than 18");
        Edges.due("18 by 6 in place of 6", heavy(6, 6, 6).swap(0, 0, 3), 18);
        Edges.due("18 by 6 in place of 5", heavy(5, 6, 6).swap(0, 0, 3), 18);
        Edges.refused("19 by 6 in place of 5 of 18", Edges.ARITHMETIC, () -> fourCourses(5, 6, 6, 1),
                x -> x.swap(0, 0, 4));
        Edges.refused("23", Edges.ARITHMETIC, () -> fourCourses(5, 6, 6, 1), x -> x.swap(0, 3, 4));
        Edges.due("18 as another one ends too", ending(true).swap(0, 0, 4), 18);
        Edges.refused("24 if it did not end", Edges.ARITHMETIC, () -> ending(false), x -> x.swap(0, 0, 4));
    }

    /** Student 0 is in the courses 0 to 3 of these credits, and course 4 of 6 credits is open. */
    private static Prereqs fourCourses(int first, int second, int third, int fourth) {
        Prereqs x = Edges.office(2, first, 2, second, 2, third, 2, fourth, 2, 6, 2);
        for (int course = 0; course < 4; course++) {
            x.enroll(0, course);
        }
        return x;
    }

    /** 1 + 5 + 6 + 6 credits; course 1 wants course 0, or nothing. */
    private static Prereqs ending(boolean wants) {
        Prereqs x = fourCourses(1, 5, 6, 6);
        int zero = x.togetherFormula(0);
        if (wants) {
            x.require(1, zero);
        }
        return x;
    }

    // Which one is first

    private static void numbersAndTheDay() {
        Edges.sentence(0, "If several exceptions apply, the one that is listed first is thrown");
        Supplier<Prereqs> late = () -> swapsOnDay(6);
        Edges.refused("23: the student before the day", Edges.INDEX, late, x -> x.swap(4, 0, 2));
        Edges.refused("23: from before the day", Edges.INDEX, late, x -> x.swap(0, 4, 2));
        Edges.refused("23: to before the day", Edges.INDEX, late, x -> x.swap(0, 0, -1));
        Edges.refused("23: to before not enrolled", Edges.INDEX, SwapEdgesTest::swaps, x -> x.swap(3, 0, 4));
        Edges.refused("23: both before the same", Edges.INDEX, SwapEdgesTest::swaps, x -> x.swap(0, 4, 4));
        Edges.refused("23: the day before not enrolled", Edges.STATE, late, x -> x.swap(3, 0, 2));
        Edges.refused("23: the day before the same", Edges.STATE, late, x -> x.swap(0, 0, 0));
        Edges.refused("23: the day before enrolled", Edges.STATE, late, x -> x.swap(0, 0, 1));
        Edges.refused("23: the day before a full course", Edges.STATE, late, x -> x.swap(0, 0, 3));
        Edges.refused("23: the day before the requisite", Edges.STATE, () -> Edges.onDay(6, swapsAsking(2)),
                x -> x.swap(0, 0, 2));
        Edges.refused("23: the day before three attempts", Edges.STATE, () -> Edges.onDay(6, tried(1, 2, 3)),
                x -> x.swap(0, 0, 2));
        Edges.refused("23: the day before the load", Edges.STATE, () -> Edges.onDay(6, fourCourses(5, 6, 6, 1)),
                x -> x.swap(0, 0, 4));
    }

    private static void notEnrolledComesNext() {
        Edges.sentence(0, "If several exceptions apply, the one that is listed first is thrown");
        Edges.refused("23: not enrolled before the same", Edges.ELEMENT, SwapEdgesTest::swaps, x -> x.swap(0, 2, 2));
        Edges.refused("23: not enrolled before enrolled", Edges.ELEMENT, SwapEdgesTest::swaps, x -> x.swap(0, 2, 1));
        Edges.refused("23: not enrolled before the requisite", Edges.ELEMENT, () -> swapsAsking(2),
                x -> x.swap(0, 3, 2));
        Edges.refused("23: not enrolled before a full course", Edges.ELEMENT, SwapEdgesTest::swaps,
                x -> x.swap(3, 0, 3));
        Edges.refused("23: not enrolled before three attempts", Edges.ELEMENT, () -> tried(1, 2, 3),
                x -> x.swap(0, 3, 2));
        Edges.refused("23: not enrolled before the load", Edges.ELEMENT, () -> heavy(6, 6, 6), x -> x.swap(0, 4, 3));
    }

    private static void thenTheOther() {
        Edges.sentence(0, "If several exceptions apply, the one that is listed first is thrown");
        Edges.refused("23: the same before its requisite", Edges.ARGUMENT, () -> swapsAsking(0), x -> x.swap(0, 0, 0));
        Edges.refused("23: enrolled before its requisite", Edges.ARGUMENT, () -> swapsAsking(1), x -> x.swap(0, 0, 1));
        Edges.refused("23: enrolled before a full course", Edges.ARGUMENT, SwapEdgesTest::chain, x -> x.swap(0, 0, 3));
        Edges.refused("23: enrolled before the load", Edges.ARGUMENT, () -> fourCourses(5, 6, 6, 1),
                x -> x.swap(0, 3, 1));
        Edges.refused("23: the same in a full course", Edges.ARGUMENT, SwapEdgesTest::chain, x -> x.swap(0, 0, 0));
    }

    private static void theRequisiteBeforeTheLoad() {
        Edges.sentence(0, "If several exceptions apply, the one that is listed first is thrown");
        Edges.refused("23: the requisite before the load", Edges.UNSUPPORTED, SwapEdgesTest::heavyAndForbidden,
                x -> x.swap(0, 3, 4));
        Edges.refused("23: three attempts before the load", Edges.UNSUPPORTED, SwapEdgesTest::triedAndHeavy,
                x -> x.swap(0, 0, 2));
        Edges.refused("23: no seat before the load", Edges.UNSUPPORTED, SwapEdgesTest::heavyAndFull,
                x -> x.swap(0, 3, 4));
    }

    private static Prereqs heavyAndForbidden() {
        Prereqs x = fourCourses(5, 6, 6, 1);
        x.require(4, x.creditsFormula(1));
        return x;
    }

    private static Prereqs heavyAndFull() {
        Prereqs x = Edges.office(3, 5, 2, 6, 2, 6, 2, 1, 2, 6, 1);
        x.enroll(1, 4);
        for (int course = 0; course < 4; course++) {
            x.enroll(0, course);
        }
        return x;
    }

    // What a swap does

    private static void leavesTheList() {
        Edges.sentence(23, "in which it may be on the waiting list (which it leaves then)");
        Prereqs x = Edges.office(4, 6, 9, 6, 9, 6, 9, 6, 1);
        x.enroll(3, 3);
        x.enroll(0, 0);
        x.enroll(0, 1);
        x.enroll(0, 3);
        x.enroll(0, 2);
        x.enroll(1, 3);
        x.enroll(1, 0);
        x.require(3, x.togetherFormula(2));
        x.drop(3, 3);
        Edges.due("two wait for the free seat", x.waiting(3), 2);
        Edges.due("the swap", x.swap(0, 0, 3), 18);
        Edges.due("one is left", x.waiting(3), 1);
        Edges.due("it has moved up", x.placeOf(1, 3), 0);
        Edges.due("the other is enrolled", x.isEnrolled(0, 3), true);
    }

    private static void noSeatsBetween() {
        Edges.sentence(23, "no seats are given out between the drop and the enrollment");
        Prereqs x = Edges.office(3, 1, 1, 1, 1, 1, 1);
        int zero = x.togetherFormula(0);
        int passed = x.markFormula(2, 50);
        x.enroll(0, 0);
        x.enroll(2, 1);
        x.enroll(1, 0);
        x.enroll(1, 1);
        x.moveIn(0, 2);
        x.require(1, x.anyFormula(zero, passed));
        x.drop(2, 1);
        // Student 1 would get the seat of 0 and by it that of 1.
        Edges.due("the seat of 1 is free", x.freeSeats(1, 0), 1);
        Edges.due("the swap", x.swap(0, 0, 1), 1);
        Edges.due("it has the seat", x.isEnrolled(0, 1), true);
        Edges.due("the other got the one that was left", x.isEnrolled(1, 0), true);
        Edges.due("and waits on", x.placeOf(1, 1), 0);
    }

    private static void theLoadAfterTheCall() {
        Edges.sentence(23, "Returns the load of the student after the call");
        Edges.due("the least", seats(2, 1).swap(0, 0, 1), 1);
        Edges.due("the greatest", heavy(6, 6, 6).swap(0, 2, 3), 18);
        Prereqs x = Edges.office(2, 6, 9, 1, 9, 6, 9, 6, 9, 5, 1);
        x.enroll(1, 4);
        x.enroll(0, 4);
        x.enroll(0, 0);
        x.enroll(0, 2);
        x.enroll(0, 3);
        x.drop(1, 4);
        int load = x.swap(0, 0, 1);
        Edges.due("with a seat that it gets at the end", load, 18);
        Edges.due("as load() tells", x.load(0), 18);
    }

    public static void main(String[] arguments) {
        noSuch();
        days();
        notEnrolled();
        enrolledInTheOther();
        requisites();
        allThatEndedIsBack();
        attempts();
        freeSeats();
        loads();
        numbersAndTheDay();
        notEnrolledComesNext();
        thenTheOther();
        theRequisiteBeforeTheLoad();
        leavesTheList();
        noSeatsBetween();
        theLoadAfterTheCall();
        Edges.end();
    }
}
