import java.util.function.Supplier;

/** The edges of promises 24 to 31, 42 and 43, sentence by sentence: marks, terms, credit and transcripts. */
public final class RecordEdgesTest {
    private RecordEdgesTest() {
    }

    /** Student 0 is in the courses 0 and 1, and has a mark of the term in course 0 if the day allows it. */
    private static Prereqs marked(int day) {
        Prereqs x = Edges.office(2, 3, 12, 4, 12, 5, 12);
        x.enroll(0, 0);
        x.enroll(0, 1);
        Edges.onDay(day, x);
        if (day >= 21) {
            x.mark(0, 0, 70);
        }
        return x;
    }

    private static Prereqs studied(int... marks) {
        return Edges.study(Edges.office(2, 6, 1, 6, 1), 0, 0, marks);
    }

    private static String transcript(Prereqs x, int student) {
        StringBuilder text = new StringBuilder();
        for (int index = 0; index < x.transcriptLength(student); index++) {
            text.append(x.transcriptAt(student, index));
        }
        return text.toString();
    }

    // Promise 24

    private static void markOutside() {
        Edges.sentence(24, "Throws `IndexOutOfBoundsException` if there is no such student or course");
        Supplier<Prereqs> maker = () -> marked(21);
        Edges.refusedBeyond(0, 1, Edges.INDEX, maker, (x, number) -> x.mark(number, 0, 50));
        Edges.refusedBeyond(0, 2, Edges.INDEX, maker, (x, number) -> x.mark(0, number, 50));
        Edges.sentence(24, "Throws `NoSuchElementException` if the student is not enrolled in the course");
        Edges.refused("in another course", Edges.ELEMENT, maker, x -> x.mark(0, 2, 50));
        Edges.refused("another student", Edges.ELEMENT, maker, x -> x.mark(1, 0, 50));
        Edges.refused("dropped on day 20", Edges.ELEMENT, RecordEdgesTest::dropped, x -> x.mark(0, 0, 50));
        Edges.refused("in the last term", Edges.ELEMENT, RecordEdgesTest::nextTerm, x -> x.mark(0, 0, 50));
        Edges.sentence(24, "`mark`: the mark, 0 to 100");
        Edges.due("0", marked(21).mark(0, 0, 0), true);
        Edges.due("100", marked(21).mark(0, 0, 100), true);
        Edges.sentence(24, "Throws `IllegalArgumentException` if the mark is out of range");
        Edges.refusedBeyond(0, 100, Edges.ARGUMENT, maker, (x, number) -> x.mark(0, 0, number));
        Edges.refusedBeyond(0, 100, Edges.ARGUMENT, maker, (x, number) -> x.mark(0, 1, number));
    }

    private static Prereqs dropped() {
        Prereqs x = marked(20);
        x.drop(0, 0);
        return Edges.onDay(21, x);
    }

    private static Prereqs nextTerm() {
        Prereqs x = marked(21);
        x.endTerm();
        return Edges.onDay(21, x);
    }

    private static void daysOfMarks() {
        Edges.sentence(24, "Throws `IllegalStateException` if the day is less than 21");
        for (int day : new int[] {0, 5, 6, 19, 20}) {
            Edges.refused("day " + day, Edges.STATE, () -> marked(day), x -> x.mark(0, 0, 50));
        }
        for (int day = 21; day <= 30; day++) {
            Edges.due("day " + day, marked(day).mark(0, 1, 50), false);
        }
        Edges.sentence(0, "If several exceptions apply, the one that is listed first is thrown");
        Supplier<Prereqs> late = () -> marked(21);
        Supplier<Prereqs> early = () -> marked(20);
        Edges.refused("24: the student before the mark", Edges.INDEX, late, x -> x.mark(2, 0, 101));
        Edges.refused("24: the course before the mark", Edges.INDEX, late, x -> x.mark(0, 3, -1));
        Edges.refused("24: the student before the day", Edges.INDEX, early, x -> x.mark(-1, 0, 50));
        Edges.refused("24: the course before the day", Edges.INDEX, early, x -> x.mark(0, 3, 50));
        Edges.refused("24: not enrolled before the mark", Edges.ELEMENT, late, x -> x.mark(0, 2, 101));
        Edges.refused("24: not enrolled before the day", Edges.ELEMENT, early, x -> x.mark(1, 0, 50));
        Edges.refused("24: the mark 101 before the day", Edges.ARGUMENT, early, x -> x.mark(0, 0, 101));
        Edges.refused("24: the mark -1 before the day", Edges.ARGUMENT, early, x -> x.mark(0, 0, -1));
    }

    private static void marksOfTheTerm() {
        Edges.sentence(24, "Returns whether the student had a mark of the term in this course before the call");
        for (int mark : new int[] {0, 50, 100}) {
            Prereqs x = marked(20);
            x.pass(1);
            Edges.due("none", x.mark(0, 0, mark), false);
            Edges.due("one of " + mark, x.mark(0, 0, 1), true);
            Edges.due("none in the other course", x.mark(0, 1, mark), false);
        }
        Edges.sentence(24, "in place of the one that it has. It is no attempt yet");
        Prereqs x = marked(21);
        x.mark(0, 0, 10);
        Edges.due("attempts", x.attempts(0, 0), 0);
        Edges.due("best mark", Picture.answerOf(x, y -> y.bestMark(0, 0)), "NoSuchElementException");
        Edges.due("average", Picture.answerOf(x, y -> y.average(0)), "ArithmeticException");
        x.endTerm();
        Edges.due("the last one, not the greatest", x.bestMark(0, 0), 10);
        Edges.due("an attempt now", x.attempts(0, 0), 1);
    }

    // Promise 25

    private static void endTerm() {
        Edges.sentence(25, "Throws `IllegalStateException` if the day is less than 21");
        for (int day : new int[] {0, 5, 6, 20}) {
            Edges.refused("day " + day, Edges.STATE, () -> Edges.busyOnDay(day), Prereqs::endTerm);
        }
        for (int day = 21; day <= 30; day++) {
            Edges.due("day " + day, marked(day).endTerm(), 2);
        }
        Edges.refused("day 0 of the next term", Edges.STATE, RecordEdgesTest::justEnded, Prereqs::endTerm);
        Edges.sentence(25, "or the mark 0 if it has none");
        Prereqs x = marked(21);
        x.endTerm();
        Edges.due("with a mark", x.bestMark(0, 0), 70);
        Edges.due("without", x.bestMark(0, 1), 0);
        Edges.due("not enrolled", x.attempts(0, 2), 0);
        Edges.sentence(25, "then nobody is enrolled in any course or has a mark of the term, and it is day 0 of the "
                + "next term");
        Edges.due("day", x.day(), 0);
        Edges.due("term", x.term(), 1);
        Edges.due("load", x.load(0), 0);
        Edges.due("enrolled", x.enrolled(0), 0);
        x.enroll(0, 0);
        x.pass(21);
        Edges.due("no mark of the term", x.mark(0, 0, 5), false);
    }

    private static Prereqs justEnded() {
        Prereqs x = marked(30);
        x.endTerm();
        return x;
    }

    private static void attemptsOfAll() {
        Edges.sentence(25, "Returns how many attempts were added");
        Edges.due("nobody is enrolled", Edges.onDay(21, Edges.office(3, 1, 1)).endTerm(), 0);
        Prereqs x = new Prereqs();
        for (int course = 0; course < 20; course++) {
            x.addCourse(1, 12);
        }
        for (int student = 0; student < 12; student++) {
            x.addStudent(0);
            for (int course = 0; course < 18; course++) {
                x.enroll(student, course + student % 3);
            }
        }
        Edges.onDay(30, x);
        Edges.due("18 courses of each of 12 students", x.endTerm(), 12 * 18);
        Edges.due("the least", Edges.onDay(30, oneEnrolled()).endTerm(), 1);
    }

    private static Prereqs oneEnrolled() {
        Prereqs x = Edges.office(2, 1, 1);
        x.enroll(0, 0);
        x.enroll(1, 0);
        return x;
    }

    // Promise 26

    /** Courses of 6, 5, 1, 2 and 6 credits; student 0 has 11 credits moved in, and student 1 has 6. */
    private static Prereqs moved() {
        Prereqs x = Edges.office(2, 6, 1, 5, 1, 1, 1, 2, 1, 6, 1);
        x.moveIn(0, 0);
        x.moveIn(0, 1);
        x.moveIn(1, 0);
        return x;
    }

    private static void moveIn() {
        Edges.sentence(26, "Throws `IndexOutOfBoundsException` if there is no such student or course");
        Edges.refusedBeyond(0, 1, Edges.INDEX, RecordEdgesTest::moved, (x, number) -> x.moveIn(number, 2));
        Edges.refusedBeyond(0, 4, Edges.INDEX, RecordEdgesTest::moved, (x, number) -> x.moveIn(0, number));
        Edges.sentence(26, "Throws `IllegalArgumentException` if the student has passed the course");
        Edges.due("a best mark of 49", studied(49).moveIn(0, 0), 6);
        Edges.due("a best mark of 0", studied(0).moveIn(0, 0), 6);
        Edges.due("a withdrawal", studied(-1).moveIn(0, 0), 6);
        Edges.due("three that failed", studied(49, 49, 49).moveIn(0, 0), 6);
        Edges.refused("a best mark of 50", Edges.ARGUMENT, () -> studied(50), x -> x.moveIn(0, 0));
        Edges.refused("50, and less later", Edges.ARGUMENT, () -> studied(50, 0, -1), x -> x.moveIn(0, 0));
        Edges.refused("a best mark of 100", Edges.ARGUMENT, () -> studied(100), x -> x.moveIn(0, 0));
        Edges.refused("credit moved in", Edges.ARGUMENT, RecordEdgesTest::moved, x -> x.moveIn(1, 0));
        Edges.sentence(26, "Throws `ArithmeticException` if the sum of the credits of all courses for which the "
                + "student has credit moved in would be greater than 12");
        Edges.due("11 and 1", moved().moveIn(0, 2), 12);
        Edges.refused("11 and 2", Edges.ARITHMETIC, RecordEdgesTest::moved, x -> x.moveIn(0, 3));
        Edges.refused("11 and 6", Edges.ARITHMETIC, RecordEdgesTest::moved, x -> x.moveIn(0, 4));
        Edges.due("6 and 6", moved().moveIn(1, 4), 12);
        Edges.refused("12 and 1", Edges.ARITHMETIC, RecordEdgesTest::movedAll, x -> x.moveIn(1, 2));
        Edges.sentence(0, "If several exceptions apply, the one that is listed first is thrown");
        Edges.refused("26: the student before passed", Edges.INDEX, RecordEdgesTest::moved, x -> x.moveIn(2, 0));
        Edges.refused("26: the course before 12", Edges.INDEX, RecordEdgesTest::movedAll, x -> x.moveIn(1, 5));
        Edges.refused("26: passed before 12", Edges.ARGUMENT, RecordEdgesTest::movedAll, x -> x.moveIn(1, 0));
        Edges.refused("26: passed by a mark before 12", Edges.ARGUMENT, RecordEdgesTest::movedAndPassed,
                x -> x.moveIn(0, 3));
    }

    private static Prereqs movedAll() {
        Prereqs x = moved();
        x.moveIn(1, 4);
        return x;
    }

    private static Prereqs movedAndPassed() {
        return Edges.study(moved(), 0, 3, 50);
    }

    private static void creditOnAnyDay() {
        Edges.sentence(26, "Moves in credit for a course");
        for (int day : new int[] {0, 5, 6, 20, 21, 30}) {
            Prereqs x = marked(day);
            Edges.due("day " + day, x.moveIn(0, 0), 3);
            Edges.due("it stays enrolled", x.isEnrolled(0, 0), true);
            Edges.due("it is earned at once", x.earnedCredits(0), 3);
        }
        Edges.sentence(26, "Returns the sum of the credits of all courses for which the student has credit moved in");
        Prereqs x = Edges.office(1);
        for (int course = 0; course < 12; course++) {
            x.addCourse(1, 1);
            Edges.due("so many", x.moveIn(0, course), course + 1);
        }
        Prereqs passed = Edges.study(moved(), 0, 3, 100);
        Edges.due("what was passed by marks is not in it", passed.moveIn(0, 2), 12);
    }

    // Promises 27 to 31

    private static void bestMark() {
        Edges.sentence(27, "Throws `IndexOutOfBoundsException` if there is no such student or course");
        Edges.refusedBeyond(0, 3, Edges.INDEX, Edges::busy, (x, number) -> x.bestMark(number, 0));
        Edges.refusedBeyond(0, 4, Edges.INDEX, Edges::busy, (x, number) -> x.bestMark(0, number));
        Edges.sentence(27, "Throws `NoSuchElementException` if there is none");
        Edges.refused("no attempt", Edges.ELEMENT, RecordEdgesTest::studied, x -> x.bestMark(0, 0));
        Edges.refused("a withdrawal", Edges.ELEMENT, () -> studied(-1), x -> x.bestMark(0, 0));
        Edges.refused("three withdrawals", Edges.ELEMENT, () -> studied(-1, -1, -1), x -> x.bestMark(0, 0));
        Edges.refused("in another course", Edges.ELEMENT, () -> studied(80), x -> x.bestMark(0, 1));
        Edges.refused("of another student", Edges.ELEMENT, () -> studied(80), x -> x.bestMark(1, 0));
        Edges.sentence(0, "The best mark of a student in a course is the greatest of its marks there and, if it has "
                + "credit moved in, of 50");
        Edges.due("0", studied(0).bestMark(0, 0), 0);
        Edges.due("100", studied(100).bestMark(0, 0), 100);
        Edges.due("the first", studied(90, 10, 20).bestMark(0, 0), 90);
        Edges.due("the second", studied(10, 90, 20).bestMark(0, 0), 90);
        Edges.due("the third", studied(10, 20, 90).bestMark(0, 0), 90);
        Edges.due("beside a withdrawal", studied(-1, 0, -1).bestMark(0, 0), 0);
        for (int mark : new int[] {-1, 0, 49}) {
            Prereqs x = studied(mark);
            x.moveIn(0, 0);
            Edges.due("credit beside " + mark, x.bestMark(0, 0), 50);
        }
        for (int mark : new int[] {-1, 0, 49, 50, 51, 100}) {
            Prereqs x = studied();
            x.moveIn(0, 0);
            Edges.due("credit alone", x.bestMark(0, 0), 50);
            Edges.study(x, 0, 0, mark);
            Edges.due("credit before " + mark, x.bestMark(0, 0), Math.max(50, mark));
        }
        Edges.sentence(0, "If several exceptions apply, the one that is listed first is thrown");
        Edges.refused("27: the student before none", Edges.INDEX, RecordEdgesTest::studied, x -> x.bestMark(2, 0));
        Edges.refused("27: the course before none", Edges.INDEX, RecordEdgesTest::studied, x -> x.bestMark(0, 2));
    }

    private static void attempts() {
        Edges.sentence(28, "Throws `IndexOutOfBoundsException` if there is no such student or course");
        Edges.refusedBeyond(0, 3, Edges.INDEX, Edges::busy, (x, number) -> x.attempts(number, 0));
        Edges.refusedBeyond(0, 4, Edges.INDEX, Edges::busy, (x, number) -> x.attempts(0, number));
        Edges.sentence(28, "Returns the number of attempts of a student in a course");
        Edges.due("none", studied().attempts(0, 0), 0);
        Edges.due("a mark", studied(0).attempts(0, 0), 1);
        Edges.due("a withdrawal", studied(-1).attempts(0, 0), 1);
        Edges.due("three", studied(-1, 100, 0).attempts(0, 0), 3);
        Edges.due("in another course", studied(-1, 100, 0).attempts(0, 1), 0);
        Edges.due("credit moved in is none", moved().attempts(0, 0), 0);
        Edges.sentence(0, "an attempt is a mark from 0 to 100 or a withdrawal");
        Edges.due("all of them", transcript(studied(0, 100, -1), 0), "0=0,100,W;");
    }

    private static void earned() {
        Edges.sentence(29, "Throws `IndexOutOfBoundsException` if there is no such student");
        Edges.refusedBeyond(0, 3, Edges.INDEX, Edges::busy, Prereqs::earnedCredits);
        Edges.sentence(0, "A student has passed a course if it has a best mark there that is 50 or more");
        Edges.due("none", studied().earnedCredits(0), 0);
        Edges.due("a withdrawal", studied(-1).earnedCredits(0), 0);
        Edges.due("49", studied(49).earnedCredits(0), 0);
        Edges.due("49 three times", studied(49, 49, 49).earnedCredits(0), 0);
        Edges.due("50", studied(50).earnedCredits(0), 6);
        Edges.due("100", studied(100).earnedCredits(0), 6);
        Edges.due("50 and then less", studied(50, 0, -1).earnedCredits(0), 6);
        Edges.due("twice is earned once", studied(50, 90, 100).earnedCredits(0), 6);
        Edges.due("credit moved in", moved().earnedCredits(0), 11);
        Prereqs both = moved();
        Edges.study(both, 0, 0, 100);
        Edges.due("both for one course", both.earnedCredits(0), 11);
        Edges.sentence(30, "Returns the sum of the earned credits of all students");
        Edges.due("no students", new Prereqs().allEarned(), 0L);
        Edges.due("nothing earned", studied(49).allEarned(), 0L);
        Edges.due("one of two", studied(50).allEarned(), 6L);
        Edges.due("both", moved().allEarned(), 17L);
        Prereqs all = Edges.office(16, 6, 1, 6, 1);
        for (int student = 0; student < 16; student++) {
            all.moveIn(student, 0);
            all.moveIn(student, 1);
        }
        Edges.due("of 16 students", all.allEarned(), 16L * 12L);
    }

    private static void average() {
        Edges.sentence(31, "Throws `IndexOutOfBoundsException` if there is no such student");
        Edges.refusedBeyond(0, 3, Edges.INDEX, Edges::busy, Prereqs::average);
        Edges.sentence(31, "Throws `ArithmeticException` if the student has no attempt that is a mark");
        Edges.refused("nothing", Edges.ARITHMETIC, RecordEdgesTest::studied, x -> x.average(0));
        Edges.refused("withdrawals", Edges.ARITHMETIC, () -> studied(-1, -1, -1), x -> x.average(0));
        Edges.refused("credit moved in", Edges.ARITHMETIC, RecordEdgesTest::moved, x -> x.average(0));
        Edges.refused("a mark of the term", Edges.ARITHMETIC, () -> marked(21), x -> x.average(0));
        Edges.refused("of another student", Edges.ARITHMETIC, () -> studied(80), x -> x.average(1));
        Edges.sentence(31, "the last such attempt counts, as often as the course has credits; withdrawals and credit "
                + "moved in do not count");
        Edges.due("0", studied(0).average(0), 0.0);
        Edges.due("100", studied(100).average(0), 100.0);
        Edges.due("the last", studied(90, 100, 7).average(0), 7.0);
        Edges.due("the last but a withdrawal", studied(90, 8, -1).average(0), 8.0);
        Edges.due("the last but two", studied(9, -1, -1).average(0), 9.0);
        Edges.due("a withdrawal first", studied(-1, 0).average(0), 0.0);
        Prereqs x = Edges.office(1, 6, 1, 1, 1, 5, 1);
        x.moveIn(0, 2);
        Edges.study(x, 0, 0, 31);
        Edges.due("one course", x.average(0), 186.0 / 6.0);
        Edges.study(x, 0, 1, 50);
        Edges.due("two", x.average(0), 236.0 / 7.0);
        Edges.study(x, 0, 2, 0);
        Edges.due("three", x.average(0), 236.0 / 12.0);
        Edges.due("of 20 courses", studiedAll().average(0), 210.0 / 20.0);
        Edges.sentence(0, "If several exceptions apply, the one that is listed first is thrown");
        Edges.refused("31: the student before no mark", Edges.INDEX, RecordEdgesTest::studied, y -> y.average(2));
    }

    /** The marks 1 to 20 in 20 courses of 1 credit, of which the last two come in a term of their own. */
    private static Prereqs studiedAll() {
        Prereqs x = Edges.office(1);
        for (int course = 0; course < 20; course++) {
            x.addCourse(1, 1);
        }
        for (int from = 0; from < 20; from += 18) {
            int to = Math.min(20, from + 18);
            for (int course = from; course < to; course++) {
                x.enroll(0, course);
            }
            Edges.onDay(21, x);
            for (int course = from; course < to; course++) {
                x.mark(0, course, course + 1);
            }
            x.endTerm();
        }
        return x;
    }

    // Promises 42 and 43

    private static void transcriptLength() {
        Edges.sentence(42, "Throws `IndexOutOfBoundsException` if there is no such student");
        Edges.refusedBeyond(0, 3, Edges.INDEX, Edges::busy, Prereqs::transcriptLength);
        Edges.sentence(42, "Returns the number of characters");
        Edges.due("none", studied().transcriptLength(0), 0);
        Edges.due("of another student", studied(50).transcriptLength(1), 0);
        Edges.due("0=9;", studied(9).transcriptLength(0), 4);
        Edges.due("0=10;", studied(10).transcriptLength(0), 5);
        Edges.due("0=99;", studied(99).transcriptLength(0), 5);
        Edges.due("0=100;", studied(100).transcriptLength(0), 6);
        Edges.due("0=100,100,100;", studied(100, 100, 100).transcriptLength(0), 14);
        Edges.due("the first", Edges.busy().transcriptLength(0), "0=75;3=40;".length());
        Edges.due("the last", Edges.busy().transcriptLength(3), 0);
    }

    private static void transcriptAt() {
        Edges.sentence(43, "Throws `IndexOutOfBoundsException` if there is no such student or character");
        Edges.refusedBeyond(0, 3, Edges.INDEX, Edges::busy, (x, number) -> x.transcriptAt(number, 0));
        Edges.refusedBeyond(0, 9, Edges.INDEX, Edges::busy, (x, number) -> x.transcriptAt(0, number));
        Edges.refused("of an empty one", Edges.INDEX, Edges::busy, x -> x.transcriptAt(3, 0));
        Edges.refused("-1 of an empty one", Edges.INDEX, Edges::busy, x -> x.transcriptAt(3, -1));
        Edges.refused("both", Edges.INDEX, Edges::busy, x -> x.transcriptAt(4, -1));
        Edges.sentence(43, "`index`: the index of the character, from 0");
        Edges.due("the first", Edges.busy().transcriptAt(0, 0), '0');
        Edges.due("the last", Edges.busy().transcriptAt(0, 9), ';');
        Edges.due("all", transcript(Edges.busy(), 0), "0=75;3=40;");
        Edges.due("a withdrawal", transcript(Edges.busy(), 1), "0=W;");
        Edges.due("credit moved in", transcript(Edges.busy(), 2), "4=T;");
    }

    private static void textOfTranscripts() {
        Edges.sentence(42, "Numbers are decimal, without leading zeros");
        for (int mark : new int[] {0, 1, 9, 10, 11, 19, 20, 90, 99, 100}) {
            Edges.due("the mark " + mark, transcript(studied(mark), 0), "0=" + mark + ";");
        }
        Prereqs x = new Prereqs();
        x.addStudent(0);
        StringBuilder due = new StringBuilder();
        for (int course = 0; course < 20; course++) {
            x.addCourse(1, 1);
            if (course % 2 == 1) {
                x.moveIn(0, course);
                due.append(course).append("=T;");
            }
        }
        Edges.due("the courses 1 to 19", transcript(x, 0), due.toString());
        Edges.sentence(42, "The entries are the character 'T' if the student has credit moved in, then for each "
                + "attempt, in order, the character 'W' for a withdrawal and otherwise the mark");
        Prereqs y = studied(-1, 3);
        y.moveIn(0, 0);
        Edges.due("moved in after attempts", transcript(y, 0), "0=T,W,3;");
        Edges.study(y, 0, 0, 100);
        Edges.due("all that there can be", transcript(y, 0), "0=T,W,3,100;");
        Edges.study(y, 0, 1, -1);
        Edges.due("two courses", transcript(y, 0), "0=T,W,3,100;1=W;");
        y.moveIn(1, 1);
        Edges.due("only moved in", transcript(y, 1), "1=T;");
    }

    public static void main(String[] arguments) {
        markOutside();
        daysOfMarks();
        marksOfTheTerm();
        endTerm();
        attemptsOfAll();
        moveIn();
        creditOnAnyDay();
        bestMark();
        attempts();
        earned();
        average();
        transcriptLength();
        transcriptAt();
        textOfTranscripts();
        Edges.end();
    }
}
