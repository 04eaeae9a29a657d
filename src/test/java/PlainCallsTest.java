import java.util.function.Supplier;

/** What the promises 2 to 23 say without naming an edge: courses, students, formulas, days and enrollment. */
public final class PlainCallsTest {
    private PlainCallsTest() {
    }

    // Promises 2 to 5

    private static void coursesAndStudents() {
        Prereqs x = Edges.office(0, 1, 1, 2, 2, 3, 3);
        for (int major = 0; major < 4; major++) {
            Edges.sentence(3, "Returns the number of the student.");
            Edges.due("the next one", x.addStudent(major), major);
            Edges.sentence(5, "Returns the major of a student.");
            Edges.due("of student " + major, x.majorOf(major), major);
        }
        Edges.sentence(2, "Returns the number of the course.");
        int course = x.addCourse(4, 4);
        Edges.due("the next one", course, 3);
        x.enroll(0, course);
        Edges.due("it is the new one", x.load(0), 4);
    }

    private static void majors() {
        Prereqs x = Edges.office(2, 1, 1);
        Edges.sentence(4, "Gives a student another major;");
        Edges.due("before the call", x.changeMajor(1, 3), 0);
        Edges.due("after the call", x.majorOf(1), 3);
        Edges.due("before the next one", x.changeMajor(1, 2), 3);
        Edges.sentence(5, "Returns the major.");
        Edges.due("it is the last one", x.majorOf(1), 2);
        Edges.due("of the other student", x.majorOf(0), 0);
    }

    // Promises 7 to 16

    private static Prereqs threeFormulas() {
        Prereqs x = Edges.study(Edges.office(1, 3, 1, 4, 1), 0, 0, 60);
        x.creditsFormula(0);
        x.creditsFormula(4);
        x.creditsFormula(3);
        return x;
    }

    private static void addsOne(int promise, String adds, Picture.Question call, boolean holds) {
        Prereqs x = threeFormulas();
        Edges.due("the next number", call.ask(x), 3);
        Edges.due(adds + ", holds", x.holds(0, 3), holds);
        Edges.due("one more", call.ask(x), 4);
        Edges.due("it is of the same kind", x.holds(0, 4), holds);
        x.require(1, 3);
        Edges.due("as a requisite", x.outcome(0, 1), holds ? 'e' : 'r');
        Edges.due("nothing came besides, promise " + promise, x.creditsFormula(0), 5);
    }

    private static void formulasOfCourses() {
        Edges.sentence(7, "Adds a mark formula.");
        addsOne(7, "60 is reached", x -> x.markFormula(0, 60), true);
        Edges.sentence(7, "Returns the number of the formula.");
        addsOne(7, "61 is not", x -> x.markFormula(0, 61), false);
        Edges.sentence(8, "Adds a together formula.");
        addsOne(8, "passed", x -> x.togetherFormula(0), true);
        Edges.sentence(8, "Returns the number of the formula.");
        addsOne(8, "not passed", x -> x.togetherFormula(1), false);
        Edges.sentence(9, "Adds a credits formula.");
        addsOne(9, "3 are earned", x -> x.creditsFormula(3), true);
        Edges.sentence(9, "Returns the number of the formula.");
        addsOne(9, "4 are not", x -> x.creditsFormula(4), false);
    }

    private static void formulasOfFormulas() {
        Edges.sentence(10, "Adds an all formula.");
        addsOne(10, "both hold", x -> x.allFormula(0, 2), true);
        Edges.sentence(10, "Returns the number of the formula.");
        addsOne(10, "one does not", x -> x.allFormula(0, 1), false);
        Edges.sentence(11, "Adds an any formula.");
        addsOne(11, "one holds", x -> x.anyFormula(1, 2), true);
        Edges.sentence(11, "Returns the number of the formula.");
        addsOne(11, "none holds", x -> x.anyFormula(1, 1), false);
        Edges.sentence(12, "Adds a two formula.");
        addsOne(12, "two hold", x -> x.twoFormula(0, 1, 2), true);
        Edges.sentence(12, "Returns the number of the formula.");
        addsOne(12, "one holds", x -> x.twoFormula(1, 1, 2), false);
        Edges.sentence(13, "Adds a none formula.");
        addsOne(13, "it does not hold", x -> x.noneFormula(1), true);
        Edges.sentence(13, "Returns the number of the formula.");
        addsOne(13, "it holds", x -> x.noneFormula(2), false);
    }

    /** The order of the parts is seen in a reason: the first one that does not hold stands in it. */
    private static void partsInOrder() {
        Prereqs x = Edges.office(1, 1, 1);
        for (int credits = 1; credits <= 3; credits++) {
            x.creditsFormula(credits);
        }
        Edges.sentence(10, "Adds an all formula.");
        dueEnd(x, x.allFormula(2, 1), 2);
        Edges.sentence(11, "Adds an any formula.");
        dueEnd(x, x.anyFormula(1, 0), 1);
        Edges.sentence(12, "Adds a two formula.");
        int yes = x.creditsFormula(0);
        dueEnd(x, x.twoFormula(1, 2, 0), 1);
        dueEnd(x, x.twoFormula(yes, 2, 0), 2);
        dueEnd(x, x.twoFormula(2, yes, 0), 2);
    }

    private static void dueEnd(Prereqs x, int formula, int end) {
        x.require(0, formula);
        Edges.due("the reason ends with", x.whyNot(0, 0), end);
        Edges.due("it has two formulas", x.whyLong(0, 0), 2);
    }

    private static void holdsAndRequires() {
        Prereqs x = threeFormulas();
        x.addStudent(1);
        Edges.sentence(14, "Returns whether a formula holds for a student.");
        Edges.due("3 credits, for the one that has them", x.holds(0, 2), true);
        Edges.due("3 credits, for the other", x.holds(1, 2), false);
        Edges.sentence(14, "Returns whether it holds.");
        Edges.due("0 credits", x.holds(1, 0), true);
        Edges.due("4 credits", x.holds(0, 1), false);
        Edges.sentence(15, "Gives a course a formula as its requisite, in place of the one that it has.");
        Edges.due("the first", x.require(1, 1), false);
        Edges.due("4 credits are wanted", x.outcome(0, 1), 'r');
        Edges.due("in place of it", x.require(1, 2), true);
        Edges.due("3 credits are wanted", x.outcome(0, 1), 'e');
        Edges.due("one lift takes it", x.lift(1), true);
        Edges.due("none is left", x.lift(1), false);
        Edges.due("nothing is wanted", x.outcome(1, 1), 'e');
    }

    // Promises 17 to 19

    private static void days() {
        Edges.sentence(17, "Returns the day after the call.");
        Prereqs x = new Prereqs();
        int day = 0;
        for (int days : new int[] {1, 2, 3, 4, 20}) {
            day += days;
            Edges.due("after " + days, x.pass(days), day);
        }
        Edges.sentence(18, "Returns the day.");
        Edges.due("the last one", x.day(), 30);
        Edges.sentence(19, "Returns the number of the term.");
        Edges.due("the first", x.term(), 0);
        x.endTerm();
        Edges.due("the next", x.term(), 1);
        Edges.sentence(18, "Returns the day.");
        Edges.due("of the next term", x.day(), 0);
        x.pass(7);
        Edges.due("a later one", x.day(), 7);
    }

    /** On day 4 the reserved seat is free for the others, on day 6 the list is empty. */
    private static Prereqs waitsForReserved() {
        Prereqs x = Edges.office(2, 1, 1, 1, 1);
        x.reserve(0, 3, 1);
        x.enroll(0, 0);
        x.enroll(1, 0);
        return x;
    }

    private static void oneByOne() {
        Edges.sentence(17, "Lets days pass, one by one.");
        for (int days = 1; days <= 30; days++) {
            Prereqs x = waitsForReserved();
            Edges.due("the day", x.pass(days), days);
            Edges.due("day 4 is not left out of " + days, x.isEnrolled(0, 0), days >= 4);
            Edges.due("nor is day 6", x.waiting(0), days < 4 ? 2 : days < 6 ? 1 : 0);
        }
    }

    // Promises 20 and 21

    private static void enrolls() {
        Edges.sentence(20, "Returns 'e' if the student has been enrolled, 'w' if it has been put on the waiting list.");
        Prereqs x = Edges.office(3, 1, 1);
        Edges.due("a free seat", x.enroll(1, 0), 'e');
        Edges.due("it is enrolled", x.isEnrolled(1, 0), true);
        Edges.due("nobody waits", x.waiting(0), 0);
        Edges.due("no free seat", x.enroll(0, 0), 'w');
        Edges.due("it is not enrolled", x.isEnrolled(0, 0), false);
        Edges.due("it waits", x.placeOf(0, 0), 0);
        Edges.due("one more", x.enroll(2, 0), 'w');
        Edges.due("behind it", x.placeOf(2, 0), 1);
    }

    private static Object nameOf(char letter) {
        switch (letter) {
            case 'd': return "IllegalStateException";
            case 'i': return "IllegalArgumentException";
            case 'r':
            case 'a': return "UnsupportedOperationException";
            case 'c': return "ArithmeticException";
            case 'f': return "NoSuchElementException";
            default: return letter;
        }
    }

    /** What fits besides: the requisite, three attempts, the load, a seat and a full list, each in a bit. */
    private static Prereqs withCases(int cases, int day) {
        Prereqs x = Edges.office(9, 6, 1, 6, 2, 6, 2, 6, 2);
        if ((cases & 2) != 0) {
            Edges.study(x, 0, 0, 1, 2, 3);
        }
        int takers = (cases & 8) == 0 ? 1 + (cases & 16) / 16 * 6 : 0;
        for (int student = 1; student <= takers; student++) {
            x.enroll(student, 0);
        }
        for (int course = 1; course <= 3 && (cases & 4) != 0; course++) {
            x.enroll(0, course);
        }
        x.creditsFormula(1);
        if ((cases & 1) != 0) {
            x.require(0, 0);
        }
        return Edges.onDay(day, x);
    }

    private static char firstThatFits(int cases, int day) {
        String letters = "race";
        for (int at = 0; at < 4 && day <= 5; at++) {
            if ((cases >> at & 1) != 0) {
                return letters.charAt(at);
            }
        }
        return day > 5 ? 'd' : (cases & 16) != 0 ? 'f' : 'w';
    }

    private static void outcomes() {
        Edges.sentence(21, "Returns the first of these letters that fits: 'd' if the day is greater than 5, 'i' if the "
                + "student is enrolled in the course or on its waiting list, 'r' if the requisite does not hold, 'a' if the "
                + "student has three attempts in the course, 'c' if the load plus the credits of the course is greater "
                + "than 18, 'e' if there is a free seat for the major of the student, 'f' if the waiting list has 6 "
                + "students, 'w' otherwise.");
        for (int cases = 0; cases < 32; cases++) {
            Edges.due("cases " + cases, withCases(cases, 0).outcome(0, 0), firstThatFits(cases, 0));
            Edges.due("cases " + cases + " on day 5", withCases(cases, 5).outcome(0, 0), firstThatFits(cases, 5));
            Edges.due("cases " + cases + " on day 6", withCases(cases, 6).outcome(0, 0), 'd');
        }
        for (int cases = 0; cases < 2; cases++) {
            Edges.due("enrolled, before the others", withCases(cases + 4, 0).outcome(0, 1), 'i');
            Edges.due("waiting, before the others", withCases(cases + 16, 0).outcome(2, 0), 'i');
            Edges.due("enrolled on day 6", withCases(cases + 4, 6).outcome(0, 1), 'd');
        }
    }

    private static void outcomeTellsEnroll() {
        Edges.sentence(21, "Tells what enroll() would do for the same student and course, and changes nothing.");
        for (int cases = 0; cases < 64; cases++) {
            int day = cases < 32 ? 2 : 6;
            int set = cases % 32;
            dueTold("cases " + cases, withCases(set, day), 0, 0);
            dueTold("one that waits or is in, cases " + cases, withCases(set, day), 1, 0);
        }
    }

    private static void dueTold(String what, Prereqs x, int student, int course) {
        char told = x.outcome(student, course);
        Edges.due(what, told, x.outcome(student, course));
        Edges.due(what + ", enroll", Picture.answerOf(x, y -> y.enroll(student, course)), nameOf(told));
        Edges.due(what + ", it is in", told != 'e' || x.isEnrolled(student, course), true);
    }

    // Promises 22 and 23

    private static Prereqs dependent() {
        Prereqs x = Edges.office(2, 1, 1, 2, 1, 4, 1);
        x.enroll(0, 1);
        x.enroll(0, 2);
        x.enroll(1, 0);
        x.enroll(0, 0);
        x.require(2, x.togetherFormula(0));
        return x;
    }

    private static void drops() {
        Edges.sentence(22, "Only the drop of a course in which the student is enrolled ends other courses of the student.");
        Prereqs x = dependent();
        Edges.due("off the list", x.drop(0, 0), 'l');
        Edges.due("course 2 goes on, though its requisite does not hold", x.isEnrolled(0, 2), true);
        Edges.due("dropped", x.drop(0, 1), 'd');
        Edges.due("course 2 has ended", x.isEnrolled(0, 2), false);
        Edges.due("the other student's has not", x.isEnrolled(1, 0), true);
    }

    private static void swaps() {
        Edges.sentence(23, "Lets a student drop a course and enrolls it in another one,");
        Prereqs x = Edges.office(2, 1, 2, 2, 2, 4, 2);
        x.enroll(0, 0);
        x.enroll(1, 0);
        Edges.due("the load", x.swap(0, 0, 2), 4);
        Edges.due("it has dropped 0", x.isEnrolled(0, 0), false);
        Edges.due("it is in 2", x.isEnrolled(0, 2), true);
        Edges.due("not in 1", x.isEnrolled(0, 1), false);
        Edges.due("the other is still in 0", x.isEnrolled(1, 0), true);
        Edges.due("and not in 2", x.isEnrolled(1, 2), false);
    }

    private static void swapEndsAsDrop() {
        Edges.sentence(23, "The course is dropped, and courses end, as by drop(), but no seats are given out between the drop "
                + "and the enrollment.");
        Supplier<Prereqs> maker = () -> {
            Prereqs x = Edges.office(1, 1, 1, 1, 1, 1, 1, 1, 1, 1, 1);
            for (int course = 0; course < 4; course++) {
                x.enroll(0, course);
            }
            x.require(1, x.togetherFormula(2));
            x.require(2, x.togetherFormula(0));
            return x;
        };
        Prereqs dropped = maker.get();
        dropped.drop(0, 0);
        Prereqs swapped = maker.get();
        swapped.swap(0, 0, 4);
        for (int course = 0; course < 4; course++) {
            Edges.due("course " + course, swapped.isEnrolled(0, course), dropped.isEnrolled(0, course));
            Edges.due("no attempt in " + course, swapped.attempts(0, course), 0);
        }
        Edges.due("two are left", swapped.load(0), 2);
    }

    public static void main(String[] arguments) {
        coursesAndStudents();
        majors();
        formulasOfCourses();
        formulasOfFormulas();
        partsInOrder();
        holdsAndRequires();
        days();
        oneByOne();
        enrolls();
        outcomes();
        outcomeTellsEnroll();
        drops();
        swaps();
        swapEndsAsDrop();
        Edges.end();
    }
}
