/** The edges of promises 32 to 38, sentence by sentence: loads, seats, lists, and when seats are given out. */
public final class SeatEdgesTest {
    private SeatEdgesTest() {
    }

    /** Student 0 has the only seat of course 0, and the students from 1 on wait for it; course 1 is open. */
    private static Prereqs waiting(int count) {
        Prereqs x = Edges.office(8, 2, 1, 3, 12);
        for (int student = 0; student <= count; student++) {
            x.enroll(student, 0);
        }
        return x;
    }

    // Promises 32 to 36

    private static void load() {
        Edges.sentence(32, "Throws `IndexOutOfBoundsException` if there is no such student");
        Edges.refusedBeyond(0, 3, Edges.INDEX, Edges::busy, Prereqs::load);
        Edges.sentence(32, "Returns the load of a student");
        Prereqs x = Edges.office(2, 6, 1, 6, 1, 6, 1, 6, 1);
        Edges.due("nothing", x.load(0), 0);
        for (int course = 0; course < 3; course++) {
            x.enroll(0, course);
            Edges.due("so many courses", x.load(0), 6 * (course + 1));
        }
        x.moveIn(0, 3);
        Edges.due("credit moved in is no load", x.load(0), 18);
        x.enroll(1, 0);
        Edges.due("nor is what it waits for", x.load(1), 0);
        x.pass(30);
        Edges.due("to the last day", x.load(0), 18);
        x.endTerm();
        Edges.due("after the term", x.load(0), 0);
    }

    private static void isEnrolled() {
        Edges.sentence(33, "Throws `IndexOutOfBoundsException` if there is no such student or course");
        Edges.refusedBeyond(0, 3, Edges.INDEX, Edges::busy, (x, number) -> x.isEnrolled(number, 0));
        Edges.refusedBeyond(0, 4, Edges.INDEX, Edges::busy, (x, number) -> x.isEnrolled(0, number));
        Edges.sentence(33, "Returns whether a student is enrolled in a course");
        Edges.due("the first", waiting(1).isEnrolled(0, 0), true);
        Edges.due("waiting", waiting(1).isEnrolled(1, 0), false);
        Edges.due("the last of both", Edges.busy().isEnrolled(3, 4), false);
    }

    private static void enrolled() {
        Edges.sentence(34, "Throws `IndexOutOfBoundsException` if there is no such course");
        Edges.refusedBeyond(0, 4, Edges.INDEX, Edges::busy, Prereqs::enrolled);
        Edges.sentence(34, "Returns the number of students who are enrolled in a course");
        Prereqs x = Edges.office(13, 1, 12);
        for (int student = 0; student < 13; student++) {
            Edges.due("before student " + student, x.enrolled(0), student);
            x.enroll(student, 0);
        }
        Edges.due("no more than the seats", x.enrolled(0), 12);
    }

    private static void waitingStudents() {
        Edges.sentence(35, "Throws `IndexOutOfBoundsException` if there is no such course");
        Edges.refusedBeyond(0, 4, Edges.INDEX, Edges::busy, Prereqs::waiting);
        Edges.sentence(35, "Returns the length of the waiting list of a course");
        for (int count = 0; count <= 6; count++) {
            Edges.due("so many", waiting(count).waiting(0), count);
            Edges.due("of the other course", waiting(count).waiting(1), 0);
        }
        Edges.due("a 7th has not come in", waiting(6).outcome(7, 0), 'f');
    }

    private static void placeOf() {
        Edges.sentence(36, "Throws `IndexOutOfBoundsException` if there is no such student or course");
        Edges.refusedBeyond(0, 3, Edges.INDEX, Edges::busy, (x, number) -> x.placeOf(number, 1));
        Edges.refusedBeyond(0, 4, Edges.INDEX, Edges::busy, (x, number) -> x.placeOf(1, number));
        Edges.sentence(36, "Throws `NoSuchElementException` if the student is not on it");
        Edges.refused("enrolled", Edges.ELEMENT, () -> waiting(6), x -> x.placeOf(0, 0));
        Edges.refused("neither", Edges.ELEMENT, () -> waiting(6), x -> x.placeOf(7, 0));
        Edges.refused("on that of another course", Edges.ELEMENT, () -> waiting(6), x -> x.placeOf(1, 1));
        Edges.refused("an empty list", Edges.ELEMENT, () -> waiting(0), x -> x.placeOf(1, 0));
        Edges.refused("emptied on day 6", Edges.ELEMENT, () -> Edges.onDay(6, waiting(6)), x -> x.placeOf(1, 0));
        Edges.sentence(36, "Returns the number of students ahead of it");
        Prereqs x = waiting(6);
        for (int student = 1; student <= 6; student++) {
            Edges.due("student " + student, x.placeOf(student, 0), student - 1);
        }
        x.drop(0, 0);
        for (int student = 2; student <= 6; student++) {
            Edges.due("the first has got the seat, student " + student, x.placeOf(student, 0), student - 2);
        }
        Edges.sentence(0, "If several exceptions apply, the one that is listed first is thrown");
        Edges.refused("36: the student before not on it", Edges.INDEX, () -> waiting(0), y -> y.placeOf(8, 0));
        Edges.refused("36: the course before not on it", Edges.INDEX, () -> waiting(0), y -> y.placeOf(1, 2));
    }

    // Promises 37 and 38

    private static void freeSeatsOutside() {
        Edges.sentence(37, "Throws `IndexOutOfBoundsException` if there is no such course");
        Edges.refusedBeyond(0, 4, Edges.INDEX, Edges::busy, (x, number) -> x.freeSeats(number, 0));
        Edges.sentence(37, "`major`: the major, 0 to 3");
        for (int major = 0; major <= 3; major++) {
            Edges.due("major " + major, Edges.busy().freeSeats(4, major), 2);
        }
        Edges.sentence(37, "Throws `IllegalArgumentException` if the major is out of range");
        Edges.refusedBeyond(0, 3, Edges.ARGUMENT, Edges::busy, (x, number) -> x.freeSeats(0, number));
        Edges.sentence(0, "If several exceptions apply, the one that is listed first is thrown");
        Edges.refused("37: the course before the major", Edges.INDEX, Edges::busy, x -> x.freeSeats(5, 4));
        Edges.refused("37: also below", Edges.INDEX, Edges::busy, x -> x.freeSeats(-1, -1));
    }

    /** A course of these seats with as many students of major 0 and 1 in it. */
    private static Prereqs taken(int seats, int ofMajor0, int ofMajor1) {
        Prereqs x = Edges.office(ofMajor0, 1, seats);
        for (int student = 0; student < ofMajor1; student++) {
            x.addStudent(1);
        }
        for (int student = 0; student < ofMajor0 + ofMajor1; student++) {
            x.enroll(student, 0);
        }
        return x;
    }

    private static void dueFree(String what, Prereqs x, int... free) {
        for (int major = 0; major < 4; major++) {
            Edges.due(what + ", major " + major, x.freeSeats(0, major), free[major]);
        }
    }

    private static void freeSeats() {
        Edges.sentence(0, "The free seats of a course for a major are its seats minus the number of students who "
                + "are enrolled in it");
        dueFree("nobody", taken(12, 0, 0), 12, 12, 12, 12);
        dueFree("one of one", taken(1, 1, 0), 0, 0, 0, 0);
        dueFree("11 of 12", taken(12, 6, 5), 1, 1, 1, 1);
        dueFree("all 12", taken(12, 6, 6), 0, 0, 0, 0);
        Edges.sentence(0, "if the course has more seats reserved for that major than students of that major are "
                + "enrolled in it, the difference is subtracted");
        for (int inIt = 0; inIt <= 4; inIt++) {
            Prereqs x = taken(10, 0, inIt);
            x.reserve(0, 1, 3);
            int others = 10 - Math.max(inIt, 3);
            dueFree(inIt + " for 3 reserved", x, others, 10 - inIt, others, others);
        }
        Prereqs all = taken(12, 0, 0);
        for (int major = 0; major < 4; major++) {
            all.reserve(0, major, 3);
        }
        dueFree("3 for each", all, 3, 3, 3, 3);
        Prereqs one = taken(12, 0, 0);
        one.reserve(0, 3, 12);
        dueFree("all for one", one, 0, 0, 0, 12);
    }

    private static void daysOfReserves() {
        Edges.sentence(0, "On the days 0 to 3, this is done for each other major, too");
        for (int day = 0; day <= 30; day += day < 6 ? 1 : 6) {
            Prereqs x = taken(5, 1, 1);
            x.reserve(0, 1, 2);
            x.reserve(0, 2, 1);
            int less = day <= 3 ? 1 : 0;
            dueFree("day " + day, Edges.onDay(day, x), 3 - 2 * less, 3 - less, 3 - less, 3 - 2 * less);
        }
        Prereqs x = taken(5, 0, 0);
        x.reserve(0, 1, 2);
        Edges.endTerm(x);
        dueFree("day 0 of the next term", x, 3, 5, 3, 3);
    }

    private static void neverLessThanNone() {
        Edges.sentence(0, "If the result is less than 0, there are 0 free seats");
        Prereqs x = taken(3, 2, 0);
        x.reserve(0, 1, 1);
        dueFree("3 - 2 - 1", x, 0, 1, 0, 0);
        x.reserve(0, 1, 2);
        dueFree("3 - 2 - 2", x, 0, 1, 0, 0);
        x.reserve(0, 2, 1);
        dueFree("3 - 2 - 2 - 1, and without the 2, and without the 1", x, 0, 0, 0, 0);
        Prereqs full = taken(12, 12, 0);
        full.reserve(0, 3, 12);
        dueFree("12 - 12 - 12", full, 0, 0, 0, 0);
        dueFree("12 - 12 on day 4", Edges.onDay(4, full), 0, 0, 0, 0);
    }

    private static void majorsThatChange() {
        Edges.sentence(4, "the student stays enrolled in its courses and on its waiting lists");
        Prereqs x = taken(5, 1, 0);
        x.reserve(0, 1, 2);
        dueFree("of major 0", x, 2, 4, 2, 2);
        x.changeMajor(0, 1);
        dueFree("of major 1", x, 3, 4, 3, 3);
        Edges.due("it is still in", x.isEnrolled(0, 0), true);
        Prereqs list = waiting(3);
        list.changeMajor(2, 3);
        Edges.due("its place", list.placeOf(2, 0), 1);
        Edges.due("all of them", list.waiting(0), 3);
    }

    private static void share() {
        Edges.sentence(38, "Throws `IndexOutOfBoundsException` if there is no such course");
        Edges.refusedBeyond(0, 4, Edges.INDEX, Edges::busy, Prereqs::share);
        Edges.sentence(38, "Returns the number of students who are enrolled in it divided by its seats, both "
                + "converted to float");
        for (int seats = 1; seats <= 12; seats++) {
            for (int inIt = 0; inIt <= seats; inIt++) {
                Edges.due(inIt + " of " + seats, taken(seats, inIt, 0).share(0), (float) inIt / (float) seats);
            }
        }
    }

    // When seats are given out

    private static void whoCanTakeASeat() {
        Edges.sentence(0, "the load of the student plus the credits of the course is 18 or less");
        for (int credits = 4; credits <= 6; credits++) {
            Prereqs x = Edges.office(3, 1, 1, 6, 9, 6, 9, credits, 9, 1, 9);
            x.enroll(0, 0);
            x.enroll(1, 0);
            x.enroll(2, 0);
            for (int course = 1; course <= 3; course++) {
                x.enroll(1, course);
            }
            x.drop(0, 0);
            boolean fits = 6 + 6 + credits + 1 <= 18;
            Edges.due("a load of " + (12 + credits) + " and 1", x.isEnrolled(1, 0), fits);
            Edges.due("else the next one gets it", x.isEnrolled(2, 0), !fits);
        }
        Edges.sentence(0, "and the requisite of the course holds for the student");
        Prereqs x = Edges.office(3, 1, 1, 4, 9);
        for (int student = 0; student < 3; student++) {
            x.enroll(student, 0);
        }
        x.moveIn(2, 1);
        x.require(0, x.creditsFormula(4));
        x.drop(0, 0);
        Edges.due("it does not for the first", x.placeOf(1, 0), 0);
        Edges.due("it does for the second", x.isEnrolled(2, 0), true);
        Edges.sentence(0, "A student who is on it can take a seat if the course has a free seat for the major of "
                + "the student");
        Prereqs y = waiting(2);
        y.changeMajor(2, 1);
        y.reserve(0, 1, 1);
        y.drop(0, 0);
        Edges.due("none for that of the first", y.placeOf(1, 0), 0);
        Edges.due("one for that of the second", y.isEnrolled(2, 0), true);
    }

    private static void endsOfCalls() {
        Edges.sentence(0, "On the days 0 to 5, seats are given out at the end of each call that does not throw an "
                + "exception");
        for (int day = 0; day <= 5; day++) {
            Prereqs x = Edges.onDay(day, waiting(2));
            x.drop(0, 0);
            Edges.due("drop on day " + day, x.isEnrolled(1, 0), true);
            x.swap(1, 0, 1);
            Edges.due("swap on day " + day, x.isEnrolled(2, 0), true);
            Prereqs held = Edges.onDay(day, heldUp());
            held.lift(0);
            Edges.due("lift on day " + day, held.isEnrolled(1, 0), true);
            held = Edges.onDay(day, heldUp());
            held.require(0, 0);
            Edges.due("require on day " + day, held.isEnrolled(1, 0), true);
            held = Edges.onDay(day, heldUp());
            held.moveIn(1, 1);
            Edges.due("moveIn on day " + day, held.isEnrolled(1, 0), true);
            held = Edges.onDay(day, heldUp());
            held.require(0, 2);
            Edges.due("not yet on day " + day, held.isEnrolled(1, 0), false);
            held.enroll(1, 1);
            Edges.due("enroll on day " + day, held.isEnrolled(1, 0), true);
        }
        for (int day = 0; day <= 3; day++) {
            Prereqs x = Edges.onDay(day, reservedForOne());
            x.reserve(0, 1, 0);
            Edges.due("reserve on day " + day, x.isEnrolled(0, 0), true);
            x = Edges.onDay(day, reservedForOne());
            x.changeMajor(0, 1);
            Edges.due("changeMajor on day " + day, x.isEnrolled(0, 0), true);
        }
    }

    /** Formula 0 always holds; student 1 waits for the free seat of course 0, which asks for 3 credits. */
    private static Prereqs heldUp() {
        Prereqs x = waiting(1);
        x.creditsFormula(0);
        x.creditsFormula(3);
        x.togetherFormula(1);
        x.require(0, 1);
        x.drop(0, 0);
        return x;
    }

    private static Prereqs reservedForOne() {
        Prereqs x = Edges.office(1, 1, 1);
        x.reserve(0, 1, 1);
        x.enroll(0, 0);
        return x;
    }

    private static void beginningsOfDays() {
        Edges.sentence(0, "and at the beginning of each day that comes");
        for (int days = 1; days <= 30; days++) {
            Prereqs x = reservedForOne();
            x.pass(days);
            Edges.due("let in on day 4, by day " + days, x.isEnrolled(0, 0), days >= 4);
            Edges.due("waiting until then, by day " + days, x.waiting(0), days >= 4 ? 0 : 1);
        }
        Edges.sentence(0, "At the beginning of day 6, all waiting lists become empty");
        for (int days = 1; days <= 30; days++) {
            Prereqs x = waiting(6);
            x.pass(days);
            Edges.due("by day " + days, x.waiting(0), days >= 6 ? 0 : 6);
        }
        Prereqs x = waiting(6);
        x.enroll(7, 1);
        x.addCourse(1, 1);
        x.enroll(6, 2);
        x.enroll(7, 2);
        x.pass(5);
        Edges.due("both lists on day 5", x.waiting(0) + x.waiting(2), 7);
        x.pass(1);
        Edges.due("both lists on day 6", x.waiting(0) + x.waiting(2), 0);
        x.drop(0, 0);
        x.drop(6, 2);
        Edges.due("nobody gets a seat any more", x.enrolled(0) + x.enrolled(2), 0);
        Edges.endTerm(x);
        Edges.due("nor in the next term", x.enrolled(0) + x.enrolled(2), 0);
    }

    private static void firstOfTheLowest() {
        Edges.sentence(0, "the first such student of the lowest-numbered such course is enrolled in it and leaves "
                + "its waiting list");
        for (int seat = 1; seat <= 6; seat++) {
            Prereqs x = waiting(6);
            x.drop(0, 0);
            for (int student = 1; student < seat; student++) {
                x.drop(student, 0);
            }
            Edges.due("the next one", x.isEnrolled(seat, 0), true);
            Edges.due("those behind it wait", x.waiting(0), 6 - seat);
        }
        Prereqs x = Edges.office(2, 6, 1, 6, 1, 6, 9, 6, 9);
        x.creditsFormula(6);
        for (int course = 0; course < 2; course++) {
            x.enroll(1, course);
        }
        for (int course = 0; course < 2; course++) {
            x.enroll(0, course);
            x.require(course, 0);
        }
        x.enroll(0, 2);
        x.enroll(0, 3);
        x.drop(1, 1);
        Edges.due("both seats are free", x.freeSeats(0, 0) + x.freeSeats(1, 0), 2);
        x.moveIn(0, 2);
        Edges.due("that of the lowest is taken", x.isEnrolled(0, 0), true);
        Edges.due("for the other it is too loaded", x.placeOf(0, 1), 0);
    }

    private static void asLongAsThereIsOne() {
        Edges.sentence(0, "as long as there is a course with a student on its waiting list who can take a seat");
        Prereqs x = new Prereqs();
        for (int course = 0; course < 18; course++) {
            x.addCourse(1, 1);
        }
        x.addStudent(0);
        x.addStudent(0);
        for (int student = 0; student < 2; student++) {
            for (int course = 0; course < 18; course++) {
                x.enroll(student, course);
            }
        }
        for (int course = 0; course < 17; course++) {
            x.togetherFormula(course + 1);
            x.require(course, course);
        }
        x.drop(0, 17);
        Edges.due("all that hung on the last one has ended", x.load(0), 0);
        Edges.due("one seat lets into the next lower one, 18 times", x.load(1), 18);
        Edges.due("sound", x.isSound(), true);
        Prereqs y = Edges.office(12, 1, 6);
        y.reserve(0, 1, 6);
        for (int student = 0; student < 6; student++) {
            y.enroll(student, 0);
        }
        Edges.due("all six wait", y.waiting(0), 6);
        y.reserve(0, 1, 1);
        Edges.due("five get seats at once", y.enrolled(0), 5);
        Edges.due("the last one waits", y.placeOf(5, 0), 0);
    }

    public static void main(String[] arguments) {
        load();
        isEnrolled();
        enrolled();
        waitingStudents();
        placeOf();
        freeSeatsOutside();
        freeSeats();
        daysOfReserves();
        neverLessThanNone();
        majorsThatChange();
        share();
        whoCanTakeASeat();
        endsOfCalls();
        beginningsOfDays();
        firstOfTheLowest();
        asLongAsThereIsOne();
        Edges.end();
    }
}
