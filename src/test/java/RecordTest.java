import java.util.NoSuchElementException;

/** Promises 24 to 31, 42 and 43: marks, ends of terms, credit moved in, averages and transcripts. */
public final class RecordTest {
    private static final Class<IllegalArgumentException> ARGUMENT = IllegalArgumentException.class;
    private static final Class<IllegalStateException> STATE = IllegalStateException.class;
    private static final Class<IndexOutOfBoundsException> INDEX = IndexOutOfBoundsException.class;
    private static final Class<NoSuchElementException> ELEMENT = NoSuchElementException.class;
    private static final Class<ArithmeticException> ARITHMETIC = ArithmeticException.class;

    private static Prereqs office(int... credits) {
        Prereqs x = new Prereqs();
        for (int credit : credits) {
            x.addCourse(credit, 12);
        }
        x.addStudent(0);
        x.addStudent(1);
        return x;
    }

    /** One term of student 0; a mark of -1 is a withdrawal, one of -2 is not given. */
    private static void study(Prereqs x, int... coursesAndMarks) {
        for (int i = 0; i + 1 < coursesAndMarks.length; i += 2) {
            x.enroll(0, coursesAndMarks[i]);
        }
        x.pass(9);
        for (int i = 0; i + 1 < coursesAndMarks.length; i += 2) {
            if (coursesAndMarks[i + 1] == -1) {
                x.drop(0, coursesAndMarks[i]);
            }
        }
        x.pass(12);
        for (int i = 0; i + 1 < coursesAndMarks.length; i += 2) {
            if (coursesAndMarks[i + 1] >= 0) {
                x.mark(0, coursesAndMarks[i], coursesAndMarks[i + 1]);
            }
        }
        x.endTerm();
    }

    private static String transcript(Prereqs x, int student) {
        StringBuilder text = new StringBuilder();
        int length = x.transcriptLength(student);
        for (int i = 0; i < length; i++) {
            text.append(x.transcriptAt(student, i));
        }
        Check.dueThrow("43: behind the end", INDEX, () -> x.transcriptAt(student, length));
        Check.dueThrow("43: before the beginning", INDEX, () -> x.transcriptAt(student, -1));
        return text.toString();
    }

    private static void mark() {
        Prereqs x = office(3, 3);
        x.enroll(0, 0);
        x.pass(20);
        Check.dueThrow("24: day 20", STATE, () -> x.mark(0, 0, 50));
        x.pass(1);
        Check.due("24: first", x.mark(0, 0, 0), false);
        Check.due("24: in place of a 0", x.mark(0, 0, 100), true);
        Check.due("24: in place of another", x.mark(0, 0, 70), true);
        Check.due("24: no attempt yet", x.attempts(0, 0), 0);
        Check.dueThrow("24: no best mark yet", ELEMENT, () -> x.bestMark(0, 0));
        Check.dueThrow("24: student", INDEX, () -> x.mark(2, 0, 101));
        Check.dueThrow("24: student -1", INDEX, () -> x.mark(-1, 0, 1));
        Check.dueThrow("24: course", INDEX, () -> x.mark(0, 2, 101));
        Check.dueThrow("24: course -1", INDEX, () -> x.mark(0, -1, 1));
        Check.dueThrow("24: not enrolled", ELEMENT, () -> x.mark(0, 1, 101));
        Check.dueThrow("24: the other is not enrolled", ELEMENT, () -> x.mark(1, 0, 1));
        Check.dueThrow("24: 101", ARGUMENT, () -> x.mark(0, 0, 101));
        Check.dueThrow("24: -1", ARGUMENT, () -> x.mark(0, 0, -1));
        x.pass(9);
        Check.due("24: day 30", x.mark(0, 0, 71), true);
        x.endTerm();
        Check.due("24: the last one counts", x.bestMark(0, 0), 71);
    }

    private static void markBeforeItsDay() {
        Prereqs x = office(3);
        x.enroll(0, 0);
        Check.dueThrow("24: the mark comes before the day", ARGUMENT, () -> x.mark(0, 0, 101));
        Check.dueThrow("24: the student comes before the day", ELEMENT, () -> x.mark(1, 0, 1));
    }

    private static void endTerm() {
        Prereqs x = office(3, 3, 3);
        x.enroll(0, 0);
        x.enroll(0, 1);
        x.enroll(1, 1);
        x.pass(20);
        Check.dueThrow("25: day 20", STATE, x::endTerm);
        x.pass(1);
        x.mark(0, 0, 80);
        Check.due("25: three attempts", x.endTerm(), 3);
        Check.due("25: the mark", x.bestMark(0, 0), 80);
        Check.due("25: 0 without a mark", x.bestMark(0, 1), 0);
        Check.due("25: 0 for the other", x.bestMark(1, 1), 0);
        Check.due("25: nobody is enrolled", x.enrolled(0) + x.enrolled(1), 0);
        Check.due("25: day", x.day(), 0);
        Check.due("25: term", x.term(), 1);
        x.enroll(0, 0);
        x.pass(21);
        Check.due("25: no mark of the term is left", x.mark(0, 0, 10), false);
        Check.due("25: one attempt", x.endTerm(), 1);
        x.pass(21);
        Check.due("25: none", x.endTerm(), 0);
        Check.due("28: two", x.attempts(0, 0), 2);
        Check.due("28: one", x.attempts(0, 1), 1);
        Check.due("28: none", x.attempts(0, 2), 0);
        Check.due("27: the greatest", x.bestMark(0, 0), 80);
    }

    private static void moveIn() {
        Prereqs x = office(6, 3, 3, 1, 6);
        Check.due("26: first", x.moveIn(0, 0), 6);
        Check.due("26: second", x.moveIn(0, 1), 9);
        Check.dueThrow("26: 15", ARITHMETIC, () -> x.moveIn(0, 4));
        Check.due("26: 12", x.moveIn(0, 2), 12);
        Check.dueThrow("26: 13", ARITHMETIC, () -> x.moveIn(0, 3));
        Check.dueThrow("26: again", ARGUMENT, () -> x.moveIn(0, 0));
        Check.due("26: of the other", x.moveIn(1, 4), 6);
        Check.dueThrow("26: student", INDEX, () -> x.moveIn(2, 0));
        Check.dueThrow("26: student -1", INDEX, () -> x.moveIn(-1, 0));
        Check.dueThrow("26: course", INDEX, () -> x.moveIn(0, 5));
        Check.dueThrow("26: course -1", INDEX, () -> x.moveIn(0, -1));
        Check.due("27: 50", x.bestMark(0, 0), 50);
        Check.due("28: it is no attempt", x.attempts(0, 0), 0);
        Check.due("29: it is earned", x.earnedCredits(0), 12);
    }

    private static void moveInAndMarks() {
        Prereqs x = office(6, 6, 6);
        study(x, 0, 50, 1, 49);
        Check.dueThrow("26: passed by a mark", ARGUMENT, () -> x.moveIn(0, 0));
        Check.due("26: failed", x.moveIn(0, 1), 6);
        Check.due("27: 50 is more than 49", x.bestMark(0, 1), 50);
        x.moveIn(0, 2);
        study(x, 2, 40);
        Check.due("27: 50 is more than a later 40", x.bestMark(0, 2), 50);
        study(x, 2, 51);
        Check.due("27: 51", x.bestMark(0, 2), 51);
    }

    private static void moveInLetsIn() {
        Prereqs x = office(1, 2);
        x.addCourse(3, 1);
        int f = x.markFormula(1, 50);
        x.enroll(1, 2);
        x.enroll(0, 2);
        x.require(2, f);
        x.drop(1, 2);
        Check.due("26: waits for its requisite", x.placeOf(0, 2), 0);
        x.moveIn(0, 1);
        Check.due("26: the seat is given out", x.isEnrolled(0, 2), true);
    }

    private static void bestMarksAndAttempts() {
        Prereqs x = office(3, 3);
        Check.dueThrow("27: none", ELEMENT, () -> x.bestMark(0, 0));
        study(x, 0, -1);
        Check.dueThrow("27: only a withdrawal", ELEMENT, () -> x.bestMark(0, 0));
        Check.due("28: a withdrawal counts", x.attempts(0, 0), 1);
        study(x, 0, 90);
        study(x, 0, 20);
        Check.due("27: the greatest, not the last", x.bestMark(0, 0), 90);
        Check.due("28: three", x.attempts(0, 0), 3);
        Check.dueThrow("27: student", INDEX, () -> x.bestMark(2, 0));
        Check.dueThrow("27: student -1", INDEX, () -> x.bestMark(-1, 0));
        Check.dueThrow("27: course", INDEX, () -> x.bestMark(0, 2));
        Check.dueThrow("27: course -1", INDEX, () -> x.bestMark(0, -1));
        Check.dueThrow("28: student", INDEX, () -> x.attempts(2, 0));
        Check.dueThrow("28: student -1", INDEX, () -> x.attempts(-1, 0));
        Check.dueThrow("28: course", INDEX, () -> x.attempts(0, 2));
        Check.dueThrow("28: course -1", INDEX, () -> x.attempts(0, -1));
    }

    private static void earned() {
        Prereqs x = office(6, 5, 4, 3);
        Check.due("29: none", x.earnedCredits(0), 0);
        Check.due("30: none", x.allEarned(), 0L);
        study(x, 0, 50, 1, 49, 2, 100);
        Check.due("29: those with 50 or more", x.earnedCredits(0), 10);
        study(x, 0, 0);
        Check.due("29: a worse attempt takes nothing", x.earnedCredits(0), 10);
        study(x, 1, 50);
        Check.due("29: one more", x.earnedCredits(0), 15);
        x.moveIn(0, 3);
        x.moveIn(1, 3);
        x.moveIn(1, 1);
        Check.due("29: of the other", x.earnedCredits(1), 8);
        Check.due("30: of both", x.allEarned(), 26L);
        Check.dueThrow("29: student", INDEX, () -> x.earnedCredits(2));
        Check.dueThrow("29: student -1", INDEX, () -> x.earnedCredits(-1));
    }

    private static void average() {
        Prereqs x = office(6, 1, 4);
        Check.dueThrow("31: nothing", ARITHMETIC, () -> x.average(0));
        x.moveIn(0, 2);
        study(x, 0, -1);
        Check.dueThrow("31: no mark", ARITHMETIC, () -> x.average(0));
        study(x, 0, 90, 1, 20);
        Check.due("31: by credits", x.average(0), 560.0 / 7.0);
        study(x, 0, 31);
        Check.due("31: the last, not the best", x.average(0), 206.0 / 7.0);
        study(x, 1, -1);
        Check.due("31: a withdrawal is passed over", x.average(0), 206.0 / 7.0);
        study(x, 2, 0);
        Check.due("31: a 0 counts", x.average(0), 206.0 / 11.0);
        Check.dueThrow("31: the other", ARITHMETIC, () -> x.average(1));
        Check.dueThrow("31: student", INDEX, () -> x.average(2));
        Check.dueThrow("31: student -1", INDEX, () -> x.average(-1));
    }

    private static void transcripts() {
        Prereqs x = office(1, 1, 1, 1, 1, 1, 1, 1, 1, 1, 1, 1, 1, 1);
        Check.due("42: nothing", x.transcriptLength(0), 0);
        Check.due("43: nothing", transcript(x, 0), "");
        x.moveIn(0, 13);
        Check.due("43: only moved in", transcript(x, 0), "13=T;");
        study(x, 0, 100, 3, 7, 10, -2, 13, -1);
        Check.due("43: one term", transcript(x, 0), "0=100;3=7;10=0;13=T,W;");
        study(x, 0, 99, 3, -1, 10, 10);
        study(x, 0, -1, 3, 50, 10, 9, 13, 68);
        Check.due("43: three terms", transcript(x, 0), "0=100,99,W;3=7,W,50;10=0,10,9;13=T,W,68;");
        Check.due("42: its length", x.transcriptLength(0), 40);
        Check.due("42: of the other", x.transcriptLength(1), 0);
        x.enroll(0, 5);
        Check.due("42: an enrollment is no entry", x.transcriptLength(0), 40);
        Check.dueThrow("42: student", INDEX, () -> x.transcriptLength(2));
        Check.dueThrow("42: student -1", INDEX, () -> x.transcriptLength(-1));
        Check.dueThrow("43: student", INDEX, () -> x.transcriptAt(2, 0));
        Check.dueThrow("43: student -1", INDEX, () -> x.transcriptAt(-1, 0));
        Check.dueThrow("43: far behind", INDEX, () -> x.transcriptAt(0, Integer.MAX_VALUE));
        Check.dueThrow("43: far before", INDEX, () -> x.transcriptAt(0, Integer.MIN_VALUE));
    }

    private static void longestTranscript() {
        Prereqs x = new Prereqs();
        x.addStudent(0);
        for (int course = 0; course < 20; course++) {
            x.addCourse(1, 1);
        }
        for (int course = 0; course < 12; course++) {
            x.moveIn(0, course);
        }
        int[] all = new int[36];
        for (int i = 0; i < 18; i++) {
            all[2 * i] = i;
            all[2 * i + 1] = 100;
        }
        study(x, all);
        study(x, 18, 100, 19, 100);
        study(x, all);
        study(x, all);
        // 10 courses of 1 and 10 of 2 digits, 12 with a T, 18 with three marks of 100 and 2 with one.
        int due = 10 + 20 + 2 * 20 + 12 * 2 + 18 * 11 + 2 * 3;
        Check.due("31: of 20 courses", x.average(0), 100.0);
        Check.due("42: very long", x.transcriptLength(0), due);
        Check.due("43: its last sign", x.transcriptAt(0, due - 1), ';');
        Check.due("43: the last mark begins", x.transcriptAt(0, due - 4), '1');
    }

    public static void main(String[] arguments) {
        mark();
        markBeforeItsDay();
        endTerm();
        moveIn();
        moveInAndMarks();
        moveInLetsIn();
        bestMarksAndAttempts();
        earned();
        average();
        transcripts();
        longestTranscript();
        Check.end();
    }
}
