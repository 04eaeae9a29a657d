import java.util.function.Supplier;

/** The edges of promises 1 to 6 and 17 to 19, sentence by sentence: what an office holds, and its days. */
public final class OfficeEdgesTest {
    private static final int[] NUMBERS = {Integer.MIN_VALUE, -1, 0, 1, Integer.MAX_VALUE};

    private OfficeEdgesTest() {
    }

    private static Prereqs courses(int count) {
        Prereqs x = new Prereqs();
        for (int course = 0; course < count; course++) {
            x.addCourse(1, 1);
        }
        return x;
    }

    private static Prereqs students(int count) {
        Prereqs x = new Prereqs();
        for (int student = 0; student < count; student++) {
            x.addStudent(0);
        }
        return x;
    }

    // Promise 1

    private static void newOffice() {
        Edges.sentence(1, "Creates an office without courses, students, formulas and rules, on day 0 of term 0");
        Prereqs x = new Prereqs();
        Edges.due("day", x.day(), 0);
        Edges.due("term", x.term(), 0);
        Edges.due("all earned", x.allEarned(), 0L);
        Edges.due("sound", x.isSound(), true);
        for (int number : NUMBERS) {
            noStudents(number);
            noCourses(number);
            noFormulasAndRules(number);
        }
        Edges.due("the first course", x.addCourse(1, 1), 0);
        Edges.due("the first student", x.addStudent(0), 0);
        Edges.due("the first formula", x.creditsFormula(0), 0);
        Edges.due("the first rule", x.addRule(0, 1, 0), 0);
    }

    private static void none(String call, Class<? extends RuntimeException> want, Picture.Question question) {
        Edges.due(call, Picture.answerOf(new Prereqs(), question), want.getSimpleName());
    }

    private static void noStudents(int n) {
        none("changeMajor " + n, Edges.INDEX, x -> x.changeMajor(n, 0));
        none("majorOf " + n, Edges.INDEX, x -> x.majorOf(n));
        none("holds " + n, Edges.INDEX, x -> x.holds(n, 0));
        none("enroll " + n, Edges.INDEX, x -> x.enroll(n, 0));
        none("outcome " + n, Edges.INDEX, x -> x.outcome(n, 0));
        none("drop " + n, Edges.INDEX, x -> x.drop(n, 0));
        none("swap " + n, Edges.INDEX, x -> x.swap(n, 0, 1));
        none("mark " + n, Edges.INDEX, x -> x.mark(n, 0, 0));
        none("moveIn " + n, Edges.INDEX, x -> x.moveIn(n, 0));
        none("bestMark " + n, Edges.INDEX, x -> x.bestMark(n, 0));
        none("attempts " + n, Edges.INDEX, x -> x.attempts(n, 0));
        none("earnedCredits " + n, Edges.INDEX, x -> x.earnedCredits(n));
        none("average " + n, Edges.INDEX, x -> x.average(n));
        none("load " + n, Edges.INDEX, x -> x.load(n));
        none("isEnrolled " + n, Edges.INDEX, x -> x.isEnrolled(n, 0));
        none("placeOf " + n, Edges.INDEX, x -> x.placeOf(n, 0));
        none("whyNot " + n, Edges.INDEX, x -> x.whyNot(n, 0));
        none("whyLong " + n, Edges.INDEX, x -> x.whyLong(n, 0));
        none("transcriptLength " + n, Edges.INDEX, x -> x.transcriptLength(n));
        none("transcriptAt " + n, Edges.INDEX, x -> x.transcriptAt(n, 0));
        none("mostMet " + n, Edges.INDEX, x -> x.mostMet(n));
        none("mostMetByTrial " + n, Edges.INDEX, x -> x.mostMetByTrial(n));
        none("mostMetIf " + n, Edges.INDEX, x -> x.mostMetIf(n));
        none("lackingRules " + n, Edges.INDEX, x -> x.lackingRules(n));
        none("lackingByTrial " + n, Edges.INDEX, x -> x.lackingByTrial(n));
        none("ruleFor " + n, Edges.INDEX, x -> x.ruleFor(n, 0));
        none("canGraduate " + n, Edges.INDEX, x -> x.canGraduate(n));
    }

    private static void noCourses(int n) {
        none("reserve " + n, Edges.INDEX, x -> x.reserve(n, 0, 0));
        none("markFormula " + n, Edges.INDEX, x -> x.markFormula(n, 0));
        none("togetherFormula " + n, Edges.INDEX, x -> x.togetherFormula(n));
        none("require " + n, Edges.INDEX, x -> x.require(n, 0));
        none("lift " + n, Edges.INDEX, x -> x.lift(n));
        none("enrolled " + n, Edges.INDEX, x -> x.enrolled(n));
        none("waiting " + n, Edges.INDEX, x -> x.waiting(n));
        none("freeSeats " + n, Edges.INDEX, x -> x.freeSeats(n, 0));
        none("share " + n, Edges.INDEX, x -> x.share(n));
        none("termsTo " + n, Edges.INDEX, x -> x.termsTo(n));
    }

    private static void noFormulasAndRules(int n) {
        none("allFormula " + n, Edges.ELEMENT, x -> x.allFormula(n, n));
        none("anyFormula " + n, Edges.ELEMENT, x -> x.anyFormula(n, n));
        none("twoFormula " + n, Edges.ELEMENT, x -> x.twoFormula(n, n, n));
        none("noneFormula " + n, Edges.ELEMENT, x -> x.noneFormula(n));
        none("allow " + n, Edges.ELEMENT, x -> x.allow(n, 0));
    }

    private static void emptyOfficePassesTerms() {
        Edges.sentence(0, "Terms are numbered from 0, and the days of a term from 0 to 30");
        Prereqs x = new Prereqs();
        Edges.due("the last day", x.pass(30), 30);
        Edges.due("no attempt is added", x.endTerm(), 0);
        Edges.due("day 0 again", x.day(), 0);
        Edges.due("term 1", x.term(), 1);
        Edges.sentence(0, "it is day 0 of term 0 at first");
        Edges.due("day", new Prereqs().day(), 0);
        Edges.due("term", new Prereqs().term(), 0);
    }

    // Promise 2

    private static void creditsOfACourse() {
        Edges.sentence(2, "`credits`: the credits, 1 to 6");
        for (int credits = 1; credits <= 6; credits++) {
            Prereqs x = Edges.office(1, credits, 1);
            x.enroll(0, 0);
            Edges.due("the load of " + credits, x.load(0), credits);
        }
        Edges.sentence(2, "Throws `IllegalArgumentException` if one of them is out of range");
        Edges.refusedBeyond(1, 6, Edges.ARGUMENT, Edges::busy, (x, number) -> x.addCourse(number, 1));
    }

    private static void seatsOfACourse() {
        Edges.sentence(2, "`seats`: the seats, 1 to 12");
        for (int seats = 1; seats <= 12; seats++) {
            Prereqs x = Edges.office(seats + 1, 1, seats);
            for (int student = 0; student < seats; student++) {
                Edges.due("seat " + student + " of " + seats, x.enroll(student, 0), 'e');
            }
            Edges.due("no more than " + seats, x.enroll(seats, 0), 'w');
        }
        Edges.sentence(2, "Throws `IllegalArgumentException` if one of them is out of range");
        Edges.refusedBeyond(1, 12, Edges.ARGUMENT, Edges::busy, (x, number) -> x.addCourse(1, number));
        Edges.refused("both", Edges.ARGUMENT, Edges::busy, x -> x.addCourse(0, 13));
    }

    private static void twentyCourses() {
        Edges.sentence(2, "Throws `IllegalStateException` if there are 20 courses");
        Edges.due("the 20th", courses(19).addCourse(1, 1), 19);
        Edges.refused("the 21st", Edges.STATE, () -> courses(20), x -> x.addCourse(1, 1));
        Edges.refused("the 21st of most", Edges.STATE, () -> courses(20), x -> x.addCourse(6, 12));
        Edges.sentence(0, "At most 20 courses have the numbers 0, 1, 2 and so on");
        Prereqs x = new Prereqs();
        for (int course = 0; course < 20; course++) {
            Edges.due("course " + course, x.addCourse(1 + course % 6, 1 + course % 12), course);
        }
        Edges.due("the last has a number", x.enrolled(19), 0);
        Edges.due("20 is none", Picture.answerOf(x, y -> y.enrolled(20)), "IndexOutOfBoundsException");
        Edges.sentence(0, "If several exceptions apply, the one that is listed first is thrown");
        Edges.refused("2: the range before 20", Edges.ARGUMENT, () -> courses(20), y -> y.addCourse(7, 1));
        Edges.refused("2: the seats before 20", Edges.ARGUMENT, () -> courses(20), y -> y.addCourse(1, 0));
    }

    private static void nothingIsReservedAtFirst() {
        Edges.sentence(0, "seats that are reserved for a major, 0 for each major at first");
        for (int major = 0; major < 4; major++) {
            Edges.due("major " + major, courses(1).reserve(0, major, 1), 0);
        }
        Edges.sentence(2, "Adds a course without a requisite");
        Edges.due("none to lift", courses(1).lift(0), false);
        Prereqs x = Edges.busy();
        int course = x.addCourse(1, 1);
        Edges.due("none after those that have one", x.lift(course), false);
    }

    // Promises 3 to 5

    private static void majorOfAStudent() {
        Edges.sentence(3, "`major`: the major, 0 to 3");
        for (int major = 0; major <= 3; major++) {
            Edges.due("major " + major, new Prereqs().addStudent(major), 0);
        }
        Edges.sentence(0, "A student has a major, 0 to 3");
        for (int major = 0; major <= 3; major++) {
            Prereqs x = new Prereqs();
            x.addStudent(major);
            Edges.due("its major", x.majorOf(0), major);
        }
        Edges.sentence(3, "Throws `IllegalArgumentException` if the major is out of range");
        Edges.refusedBeyond(0, 3, Edges.ARGUMENT, Edges::busy, Prereqs::addStudent);
    }

    private static void sixteenStudents() {
        Edges.sentence(3, "Throws `IllegalStateException` if there are 16 students");
        Edges.due("the 16th", students(15).addStudent(3), 15);
        Edges.refused("the 17th", Edges.STATE, () -> students(16), x -> x.addStudent(3));
        Edges.sentence(0, "At most 16 students have the numbers 0, 1, 2 and so on");
        Prereqs x = new Prereqs();
        for (int student = 0; student < 16; student++) {
            Edges.due("student " + student, x.addStudent(student % 4), student);
        }
        Edges.due("the last has a number", x.majorOf(15), 3);
        Edges.due("16 is none", Picture.answerOf(x, y -> y.majorOf(16)), "IndexOutOfBoundsException");
        Edges.sentence(0, "If several exceptions apply, the one that is listed first is thrown");
        Edges.refused("3: the major before 16", Edges.ARGUMENT, () -> students(16), y -> y.addStudent(-1));
        Edges.refused("3: the major 4 before 16", Edges.ARGUMENT, () -> students(16), y -> y.addStudent(4));
    }

    private static void emptyRecord() {
        Edges.sentence(3, "Adds a student with an empty record");
        Prereqs x = Edges.busy();
        int student = x.addStudent(1);
        Edges.due("earned", x.earnedCredits(student), 0);
        Edges.due("load", x.load(student), 0);
        Edges.due("transcript", x.transcriptLength(student), 0);
        Edges.due("average", Picture.answerOf(x, y -> y.average(student)), "ArithmeticException");
        for (int at = 0; at < 5; at++) {
            int course = at;
            Edges.due("attempts", x.attempts(student, course), 0);
            Edges.due("enrolled", x.isEnrolled(student, course), false);
            Edges.due("best", Picture.answerOf(x, y -> y.bestMark(student, course)), "NoSuchElementException");
            Edges.due("place", Picture.answerOf(x, y -> y.placeOf(student, course)), "NoSuchElementException");
        }
    }

    private static void changeMajor() {
        Edges.sentence(4, "`major`: the major, 0 to 3");
        for (int major = 0; major <= 3; major++) {
            Prereqs x = Edges.busy();
            Edges.due("the major before", x.changeMajor(3, major), 3);
            Edges.due("the major after", x.majorOf(3), major);
        }
        Edges.sentence(4, "Returns the major before the call");
        Prereqs changed = Edges.busy();
        Edges.due("the first", changed.changeMajor(0, 3), 0);
        Edges.due("the same again", changed.changeMajor(0, 3), 3);
        Edges.due("and back", changed.changeMajor(0, 0), 3);
        Edges.sentence(4, "Throws `IndexOutOfBoundsException` if there is no such student");
        Edges.refusedBeyond(0, 3, Edges.INDEX, Edges::busy, (x, number) -> x.changeMajor(number, 0));
        Edges.due("the first", Edges.busy().changeMajor(0, 1), 0);
        Edges.sentence(4, "Throws `IllegalArgumentException` if the major is out of range");
        Edges.refusedBeyond(0, 3, Edges.ARGUMENT, Edges::busy, (x, number) -> x.changeMajor(0, number));
        Edges.sentence(0, "If several exceptions apply, the one that is listed first is thrown");
        Edges.refused("4: the student before the major", Edges.INDEX, Edges::busy, x -> x.changeMajor(4, 4));
        Edges.refused("4: also below", Edges.INDEX, Edges::busy, x -> x.changeMajor(-1, -1));
    }

    private static void majorOf() {
        Edges.sentence(5, "Throws `IndexOutOfBoundsException` if there is no such student");
        Edges.refusedBeyond(0, 3, Edges.INDEX, Edges::busy, Prereqs::majorOf);
        Edges.due("the first", Edges.busy().majorOf(0), 0);
        Edges.due("the last", Edges.busy().majorOf(3), 3);
    }

    // Promise 6

    /** A course of 5 seats, of which 2 are reserved for major 1. */
    private static Prereqs reserved() {
        Prereqs x = Edges.office(2, 1, 5, 1, 1);
        x.reserve(0, 1, 2);
        return x;
    }

    private static void reserveOutside() {
        Edges.sentence(6, "Throws `IndexOutOfBoundsException` if there is no such course");
        Edges.refusedBeyond(0, 1, Edges.INDEX, OfficeEdgesTest::reserved, (x, number) -> x.reserve(number, 0, 0));
        Edges.sentence(6, "`major`: the major, 0 to 3");
        for (int major = 0; major <= 3; major++) {
            int of = major;
            Prereqs x = reserved();
            Edges.due("major " + of, x.reserve(0, of, 1), of == 1 ? 2 : 0);
            Edges.due("it was kept", x.reserve(0, of, 0), 1);
        }
        Edges.sentence(6, "`seats`: the number of seats, 0 or more");
        Edges.due("none", reserved().reserve(0, 1, 0), 2);
        Edges.sentence(6, "Throws `IllegalArgumentException` if the major is out of range, "
                + "or the number of seats is less than 0");
        Supplier<Prereqs> maker = OfficeEdgesTest::reserved;
        Edges.refusedBeyond(0, 3, Edges.ARGUMENT, maker, (x, number) -> x.reserve(0, number, 1));
        Edges.refusedBelow(0, Edges.ARGUMENT, maker, (x, number) -> x.reserve(0, 1, number));
        Edges.refusedBelow(0, Edges.ARGUMENT, maker, (x, number) -> x.reserve(0, 0, number));
    }

    private static void reserveTooMany() {
        Edges.sentence(6, "Throws `IllegalStateException` if more seats would be reserved for all majors together "
                + "than the course has");
        Supplier<Prereqs> maker = OfficeEdgesTest::reserved;
        Edges.due("3 beside the 2", reserved().reserve(0, 0, 3), 0);
        Edges.refused("4 beside the 2", Edges.STATE, maker, x -> x.reserve(0, 0, 4));
        Edges.due("5 in place of the 2", reserved().reserve(0, 1, 5), 2);
        Edges.refused("6 in place of the 2", Edges.STATE, maker, x -> x.reserve(0, 1, 6));
        Edges.due("the only seat", reserved().reserve(1, 3, 1), 0);
        Edges.refused("2 of the only seat", Edges.STATE, maker, x -> x.reserve(1, 3, 2));
        for (int major = 0; major < 4; major++) {
            int of = major;
            Edges.refused("the greatest number", Edges.STATE, maker, x -> x.reserve(0, of, Integer.MAX_VALUE));
            Edges.refused("one less", Edges.STATE, maker, x -> x.reserve(0, of, Integer.MAX_VALUE - 1));
        }
        Prereqs all = reserved();
        all.reserve(0, 0, 1);
        all.reserve(0, 2, 1);
        Edges.due("all four together", all.reserve(0, 3, 1), 0);
        Edges.due("one more of them", Picture.answerOf(all, x -> x.reserve(0, 2, 2)), "IllegalStateException");
        Prereqs most = Edges.office(0, 1, 12);
        Edges.due("all 12 seats", most.reserve(0, 2, 12), 0);
        Edges.due("a 13th", Picture.answerOf(most, x -> x.reserve(0, 3, 1)), "IllegalStateException");
        Edges.due("none beside the 12", most.reserve(0, 3, 0), 0);
    }

    private static void reserveInOrder() {
        Edges.sentence(0, "If several exceptions apply, the one that is listed first is thrown");
        Supplier<Prereqs> maker = OfficeEdgesTest::reserved;
        Edges.refused("6: the course before the major", Edges.INDEX, maker, x -> x.reserve(2, 4, 1));
        Edges.refused("6: the course before the seats", Edges.INDEX, maker, x -> x.reserve(-1, 0, -1));
        Edges.refused("6: the course before too many", Edges.INDEX, maker, x -> x.reserve(2, 0, 99));
        Edges.refused("6: the major before too many", Edges.ARGUMENT, maker, x -> x.reserve(0, 4, 6));
        Edges.refused("6: the major -1 before too many", Edges.ARGUMENT, maker, x -> x.reserve(0, -1, 99));
    }

    private static void reserveBefore() {
        Edges.sentence(6, "Returns the number that was reserved for this major before the call");
        Prereqs x = reserved();
        Edges.due("2", x.reserve(0, 1, 0), 2);
        Edges.due("none", x.reserve(0, 1, 5), 0);
        Edges.due("all", x.reserve(0, 1, 5), 5);
        Edges.due("of another major", x.reserve(0, 0, 0), 0);
        Edges.due("of another course", x.reserve(1, 1, 0), 0);
    }

    private static void reserveWhatIsTaken() {
        Edges.sentence(6, "Sets how many seats of a course are reserved for a major");
        Prereqs x = Edges.office(2, 1, 2);
        x.enroll(0, 0);
        x.enroll(1, 0);
        Edges.due("also in a full course", x.reserve(0, 3, 2), 0);
        Edges.due("and late in the term", Edges.onDay(30, x).reserve(0, 3, 1), 2);
        Edges.due("nobody has lost a seat", x.enrolled(0), 2);
    }

    // Promises 17 to 19

    private static void daysToPass() {
        Edges.sentence(17, "`days`: the number of days, 1 or more");
        Edges.due("1", new Prereqs().pass(1), 1);
        Edges.sentence(17, "Throws `IllegalArgumentException` if the number of days is less than 1");
        Edges.refusedBelow(1, Edges.ARGUMENT, Edges::busy, Prereqs::pass);
        Edges.refused("-1", Edges.ARGUMENT, Edges::busy, x -> x.pass(-1));
        Edges.refused("-2147483647", Edges.ARGUMENT, Edges::busy, x -> x.pass(-Integer.MAX_VALUE));
        Edges.refused("0 on day 30", Edges.ARGUMENT, () -> Edges.busyOnDay(30), x -> x.pass(0));
        Edges.refused("-1 on day 30", Edges.ARGUMENT, () -> Edges.busyOnDay(30), x -> x.pass(-1));
    }

    private static void daysOfATerm() {
        Edges.sentence(17, "Throws `IllegalStateException` if the day would be greater than 30");
        Edges.due("all 30", new Prereqs().pass(30), 30);
        Edges.refused("31", Edges.STATE, Prereqs::new, x -> x.pass(31));
        for (int day : new int[] {2, 5, 20, 29}) {
            Supplier<Prereqs> maker = () -> Edges.busyOnDay(day);
            Edges.due("from " + day + " to 30", maker.get().pass(30 - day), 30);
            Edges.refused("from " + day + " to 31", Edges.STATE, maker, x -> x.pass(31 - day));
            Edges.refused("30 from " + day, Edges.STATE, maker, x -> x.pass(30));
            Edges.refused("the greatest number from " + day, Edges.STATE, maker, x -> x.pass(Integer.MAX_VALUE));
        }
        Edges.refused("1 on day 30", Edges.STATE, () -> Edges.busyOnDay(30), x -> x.pass(1));
        Edges.refused("the greatest number on day 30", Edges.STATE, () -> Edges.busyOnDay(30),
                x -> x.pass(Integer.MAX_VALUE));
    }

    private static void daysThatCome() {
        Edges.sentence(18, "Returns the day of the term");
        Prereqs x = new Prereqs();
        for (int day = 1; day <= 30; day++) {
            Edges.due("the day after", x.pass(1), day);
            Edges.due("the day", x.day(), day);
        }
        Edges.sentence(19, "Returns the term");
        for (int term = 0; term < 5; term++) {
            Edges.due("before its end", x.term(), term);
            x.endTerm();
            Edges.due("after its end", x.term(), term + 1);
            Edges.due("its day", x.day(), 0);
            x.pass(21 + term);
        }
    }

    public static void main(String[] arguments) {
        newOffice();
        emptyOfficePassesTerms();
        creditsOfACourse();
        seatsOfACourse();
        twentyCourses();
        nothingIsReservedAtFirst();
        majorOfAStudent();
        sixteenStudents();
        emptyRecord();
        changeMajor();
        majorOf();
        reserveOutside();
        reserveTooMany();
        reserveInOrder();
        reserveBefore();
        reserveWhatIsTaken();
        daysToPass();
        daysOfATerm();
        daysThatCome();
        Edges.end();
    }
}
