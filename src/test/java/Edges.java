import java.util.function.Supplier;

/** What the edge tests share: the sentence that is looked at, refused calls, and offices to begin with. */
final class Edges {
    static final Class<IllegalArgumentException> ARGUMENT = IllegalArgumentException.class;
    static final Class<IllegalStateException> STATE = IllegalStateException.class;
    static final Class<IndexOutOfBoundsException> INDEX = IndexOutOfBoundsException.class;
    static final Class<java.util.NoSuchElementException> ELEMENT = java.util.NoSuchElementException.class;
    static final Class<ArithmeticException> ARITHMETIC = ArithmeticException.class;
    static final Class<UnsupportedOperationException> UNSUPPORTED = UnsupportedOperationException.class;

    /** A call with a number that is put in. */
    interface NumberCall {
        Object of(Prereqs x, int number);
    }

    private static String sentence = "";
    private static int answers = 1;

    private Edges() {
    }

    /** What is looked at from here on stands for these words of a promise, or of the Terms, which are 0. */
    static void sentence(int promise, String words) {
        dueWasLookedAt();
        sentence = promise + " \"" + words + "\"";
        answers = 0;
    }

    private static void dueWasLookedAt() {
        Check.due(sentence + " was looked at", answers > 0, true);
    }

    static void due(String what, Object got, Object want) {
        Check.due(sentence + ", " + what, got, want);
        answers++;
    }

    static void end() {
        dueWasLookedAt();
        Check.end();
    }

    /** The call throws this, and every other call answers after it as before. */
    static void refused(String what, Class<? extends RuntimeException> want, Supplier<Prereqs> maker,
            Picture.Question call) {
        due(what, Picture.answerOf(maker.get(), call), want.getSimpleName());
        new Picture(maker).dueTheSameAfter(sentence + ", " + what, call);
    }

    static void changesNothing(String what, Supplier<Prereqs> maker, Picture.Question call) {
        new Picture(maker).dueTheSameAfter(sentence + ", " + what, call);
        answers++;
    }

    /** The call is refused for numbers just beyond this range and for those at the ends of int. */
    static void refusedBeyond(int least, int most, Class<? extends RuntimeException> want,
            Supplier<Prereqs> maker, NumberCall call) {
        for (int number : new int[] {Integer.MIN_VALUE, least - 1, most + 1, Integer.MAX_VALUE}) {
            refused("" + number, want, maker, x -> call.of(x, number));
        }
    }

    /** As refusedBeyond(), for a range that has no greatest number. */
    static void refusedBelow(int least, Class<? extends RuntimeException> want, Supplier<Prereqs> maker,
            NumberCall call) {
        refused("" + (least - 1), want, maker, x -> call.of(x, least - 1));
        refused("" + Integer.MIN_VALUE, want, maker, x -> call.of(x, Integer.MIN_VALUE));
    }

    // Offices to begin with

    /** Students of major 0, and courses each with its credits and its seats. */
    static Prereqs office(int students, int... creditsAndSeats) {
        Prereqs x = new Prereqs();
        for (int i = 0; i + 1 < creditsAndSeats.length; i += 2) {
            x.addCourse(creditsAndSeats[i], creditsAndSeats[i + 1]);
        }
        for (int student = 0; student < students; student++) {
            x.addStudent(0);
        }
        return x;
    }

    static Prereqs onDay(int day, Prereqs x) {
        if (day > x.day()) {
            x.pass(day - x.day());
        }
        return x;
    }

    static void endTerm(Prereqs x) {
        onDay(21, x);
        x.endTerm();
    }

    /** Terms in which a student gets marks in one course; a mark of -1 is a withdrawal. */
    static Prereqs study(Prereqs x, int student, int course, int... marks) {
        for (int mark : marks) {
            x.enroll(student, course);
            onDay(9, x);
            if (mark < 0) {
                x.drop(student, course);
            } else {
                onDay(21, x);
                x.mark(student, course, mark);
            }
            endTerm(x);
        }
        return x;
    }

    /**
     * Day 2 of term 1 of an office with something of every kind: 5 courses, 4 students, 7 formulas, 3 rules,
     * records, credit moved in, seats that are taken or reserved, requisites and two who wait for course 1.
     */
    static Prereqs busy() {
        Prereqs x = office(0, 3, 2, 4, 1, 6, 3, 5, 12, 1, 2);
        for (int major : new int[] {0, 1, 0, 3}) {
            x.addStudent(major);
        }
        x.markFormula(0, 60);
        x.togetherFormula(2);
        x.creditsFormula(3);
        x.allFormula(0, 1);
        x.anyFormula(0, 1);
        x.twoFormula(0, 1, 2);
        x.noneFormula(2);
        x.addRule(0, 2, 50);
        x.addRule(1, 1, 0);
        x.addRule(0, 1, 60);
        x.allow(0, 0);
        x.allow(0, 3);
        x.allow(1, 2);
        x.allow(2, 0);
        x.setDegree(0, 4);
        x.enroll(0, 0);
        x.enroll(0, 3);
        x.enroll(1, 0);
        x.pass(9);
        x.drop(1, 0);
        x.pass(12);
        x.mark(0, 0, 75);
        x.mark(0, 3, 40);
        x.endTerm();
        x.moveIn(2, 4);
        x.reserve(2, 3, 1);
        x.reserve(3, 0, 2);
        x.enroll(0, 1);
        x.enroll(2, 1);
        x.enroll(1, 1);
        x.enroll(2, 3);
        x.enroll(3, 2);
        x.require(1, 4);
        x.require(0, 3);
        x.pass(2);
        return x;
    }

    static Prereqs busyOnDay(int day) {
        return onDay(day, busy());
    }
}
