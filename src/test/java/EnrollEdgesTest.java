import java.util.function.Supplier;

/** The edges of promises 20 and 21, sentence by sentence: who is enrolled, who waits, and who is refused. */
public final class EnrollEdgesTest {
    private EnrollEdgesTest() {
    }

    /**
     * Student 0 has the only seat of course 0, and the students from 1 on wait for it. The courses 1 to 3 of 6
     * credits and 4 and 5 of 1 credit are open to all.
     */
    private static Prereqs waiting(int count) {
        Prereqs x = Edges.office(9, 6, 1, 6, 12, 6, 12, 6, 12, 1, 12, 1, 12);
        for (int student = 0; student <= count; student++) {
            x.enroll(student, 0);
        }
        return x;
    }

    /** As waiting(), with course 0 asking for what nobody has. */
    private static Prereqs forbidden(int count) {
        Prereqs x = waiting(count);
        x.require(0, x.creditsFormula(1));
        return x;
    }

    /** As waiting(), with a load for a student who is not waiting: 18 credits. */
    private static Prereqs loaded(int count, int student) {
        Prereqs x = waiting(count);
        for (int course = 1; course <= 3; course++) {
            x.enroll(student, course);
        }
        return x;
    }

    /** Student 0 has this many attempts in course 0 of 1 seat. */
    private static Prereqs tried(int... marks) {
        return Edges.study(Edges.office(9, 6, 1, 6, 12, 6, 12, 6, 12), 0, 0, marks);
    }

    /** outcome() tells this letter and changes nothing, and enroll() is refused. */
    private static void refused(String what, char letter, Class<? extends RuntimeException> want,
            Supplier<Prereqs> maker, int student, int course) {
        Edges.due(what + ", outcome", maker.get().outcome(student, course), letter);
        Edges.changesNothing(what + ", outcome", maker, x -> x.outcome(student, course));
        Edges.refused(what, want, maker, x -> x.enroll(student, course));
    }

    private static void taken(String what, char letter, Prereqs x, int student, int course) {
        Edges.due(what + ", outcome", x.outcome(student, course), letter);
        Edges.due(what, x.enroll(student, course), letter);
        Edges.due(what + ", then enrolled", x.isEnrolled(student, course), letter == 'e');
        Object place = Picture.answerOf(x, y -> y.placeOf(student, course));
        Edges.due(what + ", then waiting", place instanceof Integer, letter == 'w');
    }

    private static void noSuch() {
        Edges.sentence(20, "Throws `IndexOutOfBoundsException` if there is no such student or course");
        Edges.refusedBeyond(0, 3, Edges.INDEX, Edges::busy, (x, number) -> x.enroll(number, 4));
        Edges.refusedBeyond(0, 4, Edges.INDEX, Edges::busy, (x, number) -> x.enroll(0, number));
        taken("the first of both", 'e', Edges.office(2, 1, 1, 1, 1), 0, 0);
        taken("the last of both", 'e', Edges.busy(), 3, 4);
        Edges.sentence(21, "Throws `IndexOutOfBoundsException` if there is no such student or course");
        Edges.refusedBeyond(0, 3, Edges.INDEX, Edges::busy, (x, number) -> x.outcome(number, 4));
        Edges.refusedBeyond(0, 4, Edges.INDEX, Edges::busy, (x, number) -> x.outcome(0, number));
        Edges.refusedBeyond(0, 3, Edges.INDEX, () -> Edges.busyOnDay(6), (x, number) -> x.outcome(number, 4));
    }

    private static void days() {
        Edges.sentence(20, "Throws `IllegalStateException` if the day is greater than 5");
        for (int day = 0; day <= 5; day++) {
            taken("a seat on day " + day, 'e', Edges.onDay(day, waiting(1)), 2, 1);
            taken("the list on day " + day, 'w', Edges.onDay(day, waiting(1)), 2, 0);
        }
        for (int day = 6; day <= 30; day += day < 9 || day > 19 && day < 22 ? 1 : 4) {
            int late = day;
            refused("day " + day, 'd', Edges.STATE, () -> Edges.onDay(late, waiting(1)), 2, 1);
            refused("a full course on day " + day, 'd', Edges.STATE, () -> Edges.onDay(late, waiting(1)), 2, 0);
        }
        Prereqs x = Edges.onDay(30, waiting(1));
        x.endTerm();
        taken("day 0 of the next term", 'e', x, 2, 1);
    }

    private static void enrolledOrWaiting() {
        Edges.sentence(20, "Throws `IllegalArgumentException` if the student is enrolled in the course "
                + "or on its waiting list");
        refused("enrolled", 'i', Edges.ARGUMENT, () -> waiting(0), 0, 0);
        refused("the only one waiting", 'i', Edges.ARGUMENT, () -> waiting(1), 1, 0);
        refused("the first of six", 'i', Edges.ARGUMENT, () -> waiting(6), 1, 0);
        refused("the last of six", 'i', Edges.ARGUMENT, () -> waiting(6), 6, 0);
        refused("let in from the list", 'i', Edges.ARGUMENT, EnrollEdgesTest::letIn, 1, 0);
        Prereqs x = waiting(2);
        x.drop(1, 0);
        taken("has left the list", 'w', x, 1, 0);
        Edges.due("has left the list, now behind the other", x.placeOf(1, 0), 1);
        x.drop(0, 0);
        taken("has dropped it", 'w', x, 0, 0);
        taken("enrolled in another one only", 'e', x, 0, 1);
        taken("waiting for another one only", 'e', x, 1, 1);
        Edges.endTerm(x);
        taken("enrolled in the last term", 'e', x, 0, 1);
    }

    private static Prereqs letIn() {
        Prereqs x = waiting(2);
        x.drop(0, 0);
        return x;
    }

    private static void requisite() {
        Edges.sentence(20, "Throws `UnsupportedOperationException` if the requisite of the course does not hold "
                + "for the student, or the student has three attempts in the course");
        refused("the requisite", 'r', Edges.UNSUPPORTED, () -> forbidden(0), 7, 0);
        Prereqs x = Edges.office(2, 3, 1, 4, 1);
        x.require(0, x.creditsFormula(4));
        Edges.due("without 4 credits", x.outcome(0, 0), 'r');
        x.moveIn(0, 1);
        taken("with 4 credits", 'e', x, 0, 0);
        Edges.due("the other is without", x.outcome(1, 0), 'r');
        x.lift(0);
        taken("a requisite that is lifted", 'w', x, 1, 0);
    }

    private static void attempts() {
        Edges.sentence(20, "Throws `UnsupportedOperationException` if the requisite of the course does not hold "
                + "for the student, or the student has three attempts in the course");
        taken("none", 'e', tried(), 0, 0);
        taken("one", 'e', tried(10), 0, 0);
        taken("two", 'e', tried(10, -1), 0, 0);
        taken("two that passed", 'e', tried(100, 90), 0, 0);
        refused("three", 'a', Edges.UNSUPPORTED, () -> tried(10, 20, 30), 0, 0);
        refused("three that passed", 'a', Edges.UNSUPPORTED, () -> tried(100, 100, 100), 0, 0);
        refused("three withdrawals", 'a', Edges.UNSUPPORTED, () -> tried(-1, -1, -1), 0, 0);
        taken("three in another course", 'e', tried(10, 20, 30), 0, 1);
        taken("three of another student", 'e', tried(10, 20, 30), 1, 0);
        Prereqs x = tried(10, 20);
        x.moveIn(0, 0);
        taken("two and credit moved in", 'e', x, 0, 0);
        Edges.sentence(0, "A student has at most three attempts in a course, in their order");
        for (int[] marks : new int[][] {{}, {0}, {0, 0}, {0, 0, 0}}) {
            Edges.due("so many", tried(marks).attempts(0, 0), marks.length);
        }
    }

    private static void load() {
        Edges.sentence(20, "Throws `ArithmeticException` if the load of the student plus the credits of the course "
                + "is greater than 18");
        Prereqs x = Edges.office(1, 6, 1, 6, 1, 6, 1);
        x.enroll(0, 0);
        x.enroll(0, 1);
        taken("18 by one of 6", 'e', x, 0, 2);
        Supplier<Prereqs> seventeen = () -> heavy(6, 6, 5);
        Edges.due("17", seventeen.get().load(0), 17);
        taken("18 by one of 1", 'e', seventeen.get(), 0, 3);
        taken("18, to wait", 'w', seventeen.get(), 0, 6);
        refused("19 by one of 2", 'c', Edges.ARITHMETIC, seventeen, 0, 4);
        refused("19, to wait", 'c', Edges.ARITHMETIC, seventeen, 0, 7);
        refused("23", 'c', Edges.ARITHMETIC, seventeen, 0, 5);
        Supplier<Prereqs> eighteen = () -> heavy(6, 6, 6);
        refused("19 by one of 1", 'c', Edges.ARITHMETIC, eighteen, 0, 3);
        refused("19 by one of 1, to wait", 'c', Edges.ARITHMETIC, eighteen, 0, 6);
        Prereqs waits = heavy(6, 6, 3);
        waits.enroll(0, 6);
        Edges.due("what it waits for is no load", waits.load(0), 15);
        taken("17 beside that", 'e', waits, 0, 4);
    }

    /**
     * Student 0 is enrolled in the courses 0 to 2 of these credits; 3, 4 and 5 have 1, 2 and 6 credits, and 6
     * and 7 of 1 and 2 credits are full.
     */
    private static Prereqs heavy(int first, int second, int third) {
        Prereqs x = Edges.office(2, first, 2, second, 2, third, 2, 1, 2, 2, 2, 6, 2, 1, 1, 2, 1);
        for (int course = 0; course < 3; course++) {
            x.enroll(0, course);
        }
        x.enroll(1, 6);
        x.enroll(1, 7);
        return x;
    }

    private static void fullList() {
        Edges.sentence(20, "Throws `NoSuchElementException` if there is no free seat for the major of the student "
                + "and the waiting list has 6 students");
        refused("6 wait", 'f', Edges.ELEMENT, () -> waiting(6), 7, 0);
        Edges.sentence(0, "A course has a waiting list of at most 6 students, in the order in which they came");
        for (int count = 0; count < 6; count++) {
            Prereqs x = waiting(count);
            taken(count + " wait", 'w', x, 8, 0);
            Edges.due(count + " are ahead", x.placeOf(8, 0), count);
            Edges.due("one more waits", x.waiting(0), count + 1);
        }
        Prereqs x = waiting(6);
        x.drop(3, 0);
        taken("one has left", 'w', x, 8, 0);
        Edges.due("one has left, behind the others", x.placeOf(8, 0), 5);
        Edges.due("one has left, and 6 wait again", x.outcome(7, 0), 'f');
        x.drop(0, 0);
        taken("the first has got the seat", 'w', x, 7, 0);
    }

    /** A course of 1 seat, which is reserved for major 1, and 6 students of major 0 who wait for it. */
    private static Prereqs reservedSeat() {
        Prereqs x = Edges.office(8, 1, 1);
        x.addStudent(1);
        x.reserve(0, 1, 1);
        for (int student = 0; student < 6; student++) {
            x.enroll(student, 0);
        }
        return x;
    }

    private static void fullListAndAFreeSeat() {
        Edges.sentence(20, "Enrolls a student in a course if the course has a free seat for the major of the student; "
                + "otherwise puts the student at the end of the waiting list of the course");
        refused("6 wait, and no seat for its major", 'f', Edges.ELEMENT, EnrollEdgesTest::reservedSeat, 6, 0);
        taken("6 wait, and a seat for its major", 'e', reservedSeat(), 8, 0);
        taken("the last seat", 'e', Edges.office(2, 1, 1), 0, 0);
        taken("no seat", 'w', waiting(0), 1, 0);
        Prereqs last = Edges.office(2, 1, 12);
        last.reserve(0, 1, 11);
        taken("the only seat that is not reserved", 'e', last, 0, 0);
        taken("none that is not reserved", 'w', last, 1, 0);
        Prereqs four = Edges.office(2, 1, 12);
        four.reserve(0, 1, 12);
        four.pass(3);
        taken("all reserved on day 3", 'w', four, 0, 0);
        four.pass(1);
        Edges.due("let in on day 4", four.isEnrolled(0, 0), true);
        taken("all reserved on day 4", 'e', four, 1, 0);
    }

    // Which one is first

    private static void numbersComeFirst() {
        Edges.sentence(0, "If several exceptions apply, the one that is listed first is thrown");
        Supplier<Prereqs> late = () -> Edges.busyOnDay(6);
        Edges.refused("20: the student before the day", Edges.INDEX, late, x -> x.enroll(4, 0));
        Edges.refused("20: the course before the day", Edges.INDEX, late, x -> x.enroll(0, 5));
        Edges.refused("20: both before the day", Edges.INDEX, late, x -> x.enroll(-1, -1));
        Edges.refused("20: the course before the load", Edges.INDEX, () -> loaded(6, 8), x -> x.enroll(8, 6));
        Edges.refused("21: the student before the day", Edges.INDEX, late, x -> x.outcome(4, 0));
        Edges.refused("21: the course before the day", Edges.INDEX, late, x -> x.outcome(0, -1));
    }

    private static void theDayComesNext() {
        Edges.sentence(0, "If several exceptions apply, the one that is listed first is thrown");
        refused("20: the day before enrolled", 'd', Edges.STATE, () -> Edges.onDay(6, waiting(6)), 0, 0);
        refused("20: the day before the requisite", 'd', Edges.STATE, () -> Edges.onDay(6, forbidden(0)), 7, 0);
        refused("20: the day before three attempts", 'd', Edges.STATE, () -> Edges.onDay(6, tried(1, 2, 3)), 0, 0);
        refused("20: the day before the load", 'd', Edges.STATE, () -> Edges.onDay(6, loaded(0, 8)), 8, 0);
    }

    private static void thenEnrolledOrWaiting() {
        Edges.sentence(0, "If several exceptions apply, the one that is listed first is thrown");
        refused("20: enrolled before the requisite", 'i', Edges.ARGUMENT, () -> forbidden(6), 0, 0);
        refused("20: waiting before the requisite", 'i', Edges.ARGUMENT, () -> forbidden(6), 3, 0);
        refused("20: enrolled before the load", 'i', Edges.ARGUMENT, () -> loaded(0, 8), 8, 1);
        refused("20: waiting before the load", 'i', Edges.ARGUMENT, () -> loaded(6, 6), 6, 0);
        refused("20: enrolled before the full list", 'i', Edges.ARGUMENT, () -> waiting(6), 0, 0);
        refused("20: waiting before the full list", 'i', Edges.ARGUMENT, () -> waiting(6), 6, 0);
    }

    private static void thenTheRequisite() {
        Edges.sentence(0, "If several exceptions apply, the one that is listed first is thrown");
        refused("20: the requisite before the load", 'r', Edges.UNSUPPORTED, () -> loadedAndForbidden(0), 8, 0);
        refused("20: the requisite before the full list", 'r', Edges.UNSUPPORTED, () -> forbidden(6), 8, 0);
        refused("20: the requisite before both", 'r', Edges.UNSUPPORTED, () -> loadedAndForbidden(6), 8, 0);
        refused("21: the requisite before three attempts", 'r', Edges.UNSUPPORTED,
                EnrollEdgesTest::triedAndForbidden, 0, 0);
        refused("20: three attempts before the load", 'a', Edges.UNSUPPORTED, () -> triedAndLoaded(0), 0, 0);
        refused("20: three attempts before the full list", 'a', Edges.UNSUPPORTED, () -> triedAndFull(6), 0, 0);
        refused("20: three attempts before both", 'a', Edges.UNSUPPORTED, () -> triedAndLoaded(6), 0, 0);
        refused("20: the load before the full list", 'c', Edges.ARITHMETIC, () -> loaded(6, 8), 8, 0);
    }

    private static Prereqs loadedAndForbidden(int count) {
        Prereqs x = loaded(count, 8);
        x.require(0, x.creditsFormula(1));
        return x;
    }

    private static Prereqs triedAndForbidden() {
        Prereqs x = tried(1, 2, 3);
        x.require(0, x.creditsFormula(1));
        return x;
    }

    /** Student 1 has the only seat of course 0, this many wait, and student 0 has three attempts in it. */
    private static Prereqs triedAndFull(int count) {
        Prereqs x = tried(1, 2, 3);
        for (int student = 1; student <= count + 1; student++) {
            x.enroll(student, 0);
        }
        return x;
    }

    private static Prereqs triedAndLoaded(int count) {
        Prereqs x = triedAndFull(count);
        for (int course = 1; course <= 3; course++) {
            x.enroll(0, course);
        }
        return x;
    }

    private static void lettersOfOutcome() {
        Edges.sentence(21, "changes nothing");
        Edges.changesNothing("e", () -> waiting(0), x -> x.outcome(1, 1));
        Edges.changesNothing("w", () -> waiting(5), x -> x.outcome(8, 0));
        Edges.sentence(21, "'f' if the waiting list has 6 students, 'w' otherwise");
        Edges.due("5 wait", waiting(5).outcome(8, 0), 'w');
        Edges.due("6 wait", waiting(6).outcome(8, 0), 'f');
        Edges.due("6 wait, one of them", waiting(6).outcome(6, 0), 'i');
    }

    public static void main(String[] arguments) {
        noSuch();
        days();
        enrolledOrWaiting();
        requisite();
        attempts();
        load();
        fullList();
        fullListAndAFreeSeat();
        numbersComeFirst();
        theDayComesNext();
        thenEnrolledOrWaiting();
        thenTheRequisite();
        lettersOfOutcome();
        Edges.end();
    }
}
