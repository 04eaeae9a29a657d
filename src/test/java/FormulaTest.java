import java.util.NoSuchElementException;

/** Promises 7 to 16 and 39 to 41: formulas, requisites, reasons and the way to a course. */
public final class FormulaTest {
    private static final Class<IllegalArgumentException> ARGUMENT = IllegalArgumentException.class;
    private static final Class<IllegalStateException> STATE = IllegalStateException.class;
    private static final Class<IndexOutOfBoundsException> INDEX = IndexOutOfBoundsException.class;
    private static final Class<NoSuchElementException> ELEMENT = NoSuchElementException.class;

    /** Courses 0 to 3 of 1 to 4 credits, and the students 0 and 1. */
    private static Prereqs office() {
        Prereqs x = new Prereqs();
        for (int credits = 1; credits <= 4; credits++) {
            x.addCourse(credits, 5);
        }
        x.addStudent(0);
        x.addStudent(1);
        return x;
    }

    /** Gives student 0 an attempt in a course, in a term of its own. */
    private static void study(Prereqs x, int course, int mark) {
        x.enroll(0, course);
        x.pass(21);
        x.mark(0, course, mark);
        x.endTerm();
    }

    private static void markFormula() {
        Prereqs x = office();
        Check.due("7: first", x.markFormula(0, 60), 0);
        Check.due("7: least mark", x.markFormula(0, 0), 1);
        Check.due("7: most", x.markFormula(0, 100), 2);
        Check.dueThrow("7: course", INDEX, () -> x.markFormula(4, 101));
        Check.dueThrow("7: course -1", INDEX, () -> x.markFormula(-1, 1));
        Check.dueThrow("7: mark 101", ARGUMENT, () -> x.markFormula(0, 101));
        Check.dueThrow("7: mark -1", ARGUMENT, () -> x.markFormula(0, -1));
        Check.due("7: no best mark is less than 0", x.holds(0, 1), false);
        study(x, 0, 0);
        Check.due("7: a best mark of 0", x.holds(0, 1), true);
        study(x, 0, 59);
        Check.due("7: one less", x.holds(0, 0), false);
        x.moveIn(0, 1);
        int fifty = x.markFormula(1, 50);
        int more = x.markFormula(1, 51);
        Check.due("7: credit moved in counts 50", x.holds(0, fifty), true);
        Check.due("7: and no more", x.holds(0, more), false);
        study(x, 0, 60);
        Check.due("7: this mark", x.holds(0, 0), true);
        Check.due("7: of another student", x.holds(1, 0), false);
    }

    private static void togetherFormula() {
        Prereqs x = office();
        int f = x.togetherFormula(1);
        Check.due("8: first", f, 0);
        Check.dueThrow("8: course", INDEX, () -> x.togetherFormula(4));
        Check.dueThrow("8: course -1", INDEX, () -> x.togetherFormula(-1));
        Check.due("8: neither", x.holds(0, f), false);
        x.enroll(0, 1);
        Check.due("8: enrolled", x.holds(0, f), true);
        x.pass(21);
        x.mark(0, 1, 49);
        x.endTerm();
        Check.due("8: failed", x.holds(0, f), false);
        study(x, 1, 50);
        Check.due("8: passed", x.holds(0, f), true);
        x.moveIn(1, 1);
        Check.due("8: passed by credit moved in", x.holds(1, f), true);
    }

    private static void waitingIsNotTogether() {
        Prereqs x = office();
        x.addCourse(1, 1);
        int f = x.togetherFormula(4);
        x.enroll(0, 4);
        x.enroll(1, 4);
        Check.due("8: the one on the waiting list", x.holds(1, f), false);
    }

    private static void creditsFormula() {
        Prereqs x = office();
        Check.due("9: 0", x.creditsFormula(0), 0);
        Check.due("9: 120", x.creditsFormula(120), 1);
        Check.dueThrow("9: -1", ARGUMENT, () -> x.creditsFormula(-1));
        Check.dueThrow("9: 121", ARGUMENT, () -> x.creditsFormula(121));
        int three = x.creditsFormula(3);
        int four = x.creditsFormula(4);
        Check.due("9: none needed", x.holds(0, 0), true);
        Check.due("9: too few", x.holds(0, three), false);
        x.moveIn(0, 2);
        Check.due("9: as many", x.holds(0, three), true);
        Check.due("9: one more", x.holds(0, four), false);
    }

    private static void parts() {
        Prereqs x = office();
        int yes = x.creditsFormula(0);
        int no = x.creditsFormula(1);
        int[] both = {yes, no};
        for (int first : both) {
            for (int second : both) {
                boolean a = first == yes;
                boolean b = second == yes;
                Check.due("10: " + a + " " + b, x.holds(0, x.allFormula(first, second)), a && b);
                Check.due("11: " + a + " " + b, x.holds(0, x.anyFormula(first, second)), a || b);
                for (int third : both) {
                    boolean c = third == yes;
                    boolean due = a && b || a && c || b && c;
                    Check.due("12: " + a + " " + b + " " + c, x.holds(0, x.twoFormula(first, second, third)), due);
                }
            }
        }
        Check.due("13: none of one that holds", x.holds(0, x.noneFormula(yes)), false);
        Check.due("13: none of one that doesn't", x.holds(0, x.noneFormula(no)), true);
    }

    private static void partsThatAreNot() {
        Prereqs x = office();
        x.creditsFormula(0);
        Check.dueThrow("10: first", ELEMENT, () -> x.allFormula(1, 0));
        Check.dueThrow("10: second", ELEMENT, () -> x.allFormula(0, -1));
        Check.dueThrow("11: first", ELEMENT, () -> x.anyFormula(-1, 0));
        Check.dueThrow("11: second", ELEMENT, () -> x.anyFormula(0, 1));
        Check.dueThrow("12: first", ELEMENT, () -> x.twoFormula(1, 0, 0));
        Check.dueThrow("12: second", ELEMENT, () -> x.twoFormula(0, 1, 0));
        Check.dueThrow("12: third", ELEMENT, () -> x.twoFormula(0, 0, 1));
        Check.dueThrow("13: part", ELEMENT, () -> x.noneFormula(1));
        Check.due("10: nothing was added", x.noneFormula(0), 1);
    }

    private static void depths() {
        Prereqs x = office();
        x.creditsFormula(0);
        x.allFormula(0, 0);
        x.anyFormula(1, 0);
        x.twoFormula(0, 0, 2);
        x.noneFormula(3);
        Check.due("10: depth 5", x.allFormula(0, 4), 5);
        Check.dueThrow("10: depth 6 by the first", STATE, () -> x.allFormula(5, 0));
        Check.dueThrow("10: depth 6 by the second", STATE, () -> x.allFormula(0, 5));
        Check.dueThrow("11: depth 6 by the first", STATE, () -> x.anyFormula(5, 0));
        Check.dueThrow("11: depth 6 by the second", STATE, () -> x.anyFormula(0, 5));
        Check.dueThrow("12: depth 6 by the first", STATE, () -> x.twoFormula(5, 0, 0));
        Check.dueThrow("12: depth 6 by the second", STATE, () -> x.twoFormula(0, 5, 0));
        Check.dueThrow("12: depth 6 by the third", STATE, () -> x.twoFormula(0, 0, 5));
        Check.dueThrow("13: depth 6", STATE, () -> x.noneFormula(5));
        Check.dueThrow("10: the part comes before the depth", ELEMENT, () -> x.allFormula(5, 9));
        Check.due("11: depth 5", x.anyFormula(4, 0), 6);
        Check.due("12: depth 5", x.twoFormula(4, 0, 0), 7);
        Check.due("13: depth 5", x.noneFormula(4), 8);
        Check.dueThrow("11: depth 5 is a depth", STATE, () -> x.anyFormula(6, 0));
        Check.dueThrow("12: depth 5 is a depth", STATE, () -> x.noneFormula(7));
        Check.dueThrow("13: depth 5 is a depth", STATE, () -> x.noneFormula(8));
    }

    private static void depthsOfAllBeginnings() {
        for (int kind = 0; kind < 3; kind++) {
            Prereqs x = office();
            Check.due("13: first", kind == 0 ? x.markFormula(0, 0) : kind == 1 ? x.togetherFormula(0) : x.creditsFormula(0), 0);
            for (int depth = 1; depth <= 5; depth++) {
                Check.due("13: depth " + depth, x.noneFormula(depth - 1), depth);
            }
            Check.dueThrow("13: depth 6", STATE, () -> x.noneFormula(5));
        }
    }

    private static void sixtyFormulas() {
        Prereqs x = office();
        for (int formula = 0; formula < 60; formula++) {
            Check.due("9: one more", x.creditsFormula(0), formula);
        }
        Check.due("14: the last", x.holds(0, 59), true);
        Check.due("13: none was lost", x.holds(0, 31), true);
        Check.dueThrow("7: 61", STATE, () -> x.markFormula(0, 0));
        Check.dueThrow("7: 61, mark", ARGUMENT, () -> x.markFormula(0, 101));
        Check.dueThrow("8: 61", STATE, () -> x.togetherFormula(0));
        Check.dueThrow("8: 61, course", INDEX, () -> x.togetherFormula(9));
        Check.dueThrow("9: 61", STATE, () -> x.creditsFormula(0));
        Check.dueThrow("9: 61, credits", ARGUMENT, () -> x.creditsFormula(121));
        Check.dueThrow("10: 61", STATE, () -> x.allFormula(0, 0));
        Check.dueThrow("11: 61", STATE, () -> x.anyFormula(0, 0));
        Check.dueThrow("12: 61", STATE, () -> x.twoFormula(0, 0, 0));
        Check.dueThrow("13: 61", STATE, () -> x.noneFormula(0));
        Check.dueThrow("10: 61, part", ELEMENT, () -> x.allFormula(0, 60));
        Check.dueThrow("14: 61", ELEMENT, () -> x.holds(0, 60));
    }

    private static void holds() {
        Prereqs x = office();
        x.creditsFormula(0);
        Check.dueThrow("14: student", INDEX, () -> x.holds(2, 9));
        Check.dueThrow("14: student -1", INDEX, () -> x.holds(-1, 0));
        Check.dueThrow("14: formula", ELEMENT, () -> x.holds(0, 1));
        Check.dueThrow("14: formula -1", ELEMENT, () -> x.holds(0, -1));
    }

    private static void requireAndLift() {
        Prereqs x = office();
        x.creditsFormula(1);
        x.creditsFormula(0);
        x.enroll(0, 0);
        Check.due("15: first", x.require(0, 0), false);
        Check.due("15: enrolled students stay", x.isEnrolled(0, 0), true);
        Check.due("15: it forbids", x.outcome(1, 0), 'r');
        Check.due("15: in place of another", x.require(0, 1), true);
        Check.due("15: the new one counts", x.outcome(1, 0), 'e');
        Check.dueThrow("15: course", INDEX, () -> x.require(4, 9));
        Check.dueThrow("15: course -1", INDEX, () -> x.require(-1, 0));
        Check.dueThrow("15: formula", ELEMENT, () -> x.require(0, 2));
        Check.dueThrow("15: formula -1", ELEMENT, () -> x.require(0, -1));
        x.require(0, 0);
        Check.due("16: one", x.lift(0), true);
        Check.due("16: none", x.lift(0), false);
        Check.due("16: open again", x.outcome(1, 0), 'e');
        Check.dueThrow("16: course", INDEX, () -> x.lift(4));
        Check.dueThrow("16: course -1", INDEX, () -> x.lift(-1));
    }

    private static void requireAndLiftLetIn() {
        Prereqs x = new Prereqs();
        x.addCourse(2, 1);
        x.addStudent(0);
        x.addStudent(0);
        x.addStudent(0);
        int no = x.creditsFormula(9);
        int yes = x.creditsFormula(0);
        x.enroll(0, 0);
        x.enroll(1, 0);
        x.enroll(2, 0);
        x.require(0, no);
        x.drop(0, 0);
        Check.due("15: the waiting one stays waiting", x.placeOf(1, 0), 0);
        x.require(0, yes);
        Check.due("15: it is let in", x.isEnrolled(1, 0), true);
        x.require(0, no);
        x.drop(1, 0);
        Check.due("16: the next one waits", x.placeOf(2, 0), 0);
        x.lift(0);
        Check.due("16: it is let in", x.isEnrolled(2, 0), true);
    }

    private static void reasons() {
        Prereqs x = office();
        int mark = x.markFormula(0, 60);
        int together = x.togetherFormula(1);
        int credits = x.creditsFormula(0);
        int none = x.noneFormula(credits);
        int all = x.allFormula(credits, mark);
        int any = x.anyFormula(none, all);
        int two = x.twoFormula(credits, any, together);
        for (int[] due : new int[][] {{mark, 1, mark}, {together, 1, together}, {none, 1, none}, {all, 2, mark},
            {any, 2, none}, {two, 3, none}}) {
            x.require(3, due[0]);
            Check.due("39: of " + due[0], x.whyNot(0, 3), due[2]);
            Check.due("40: of " + due[0], x.whyLong(0, 3), due[1]);
        }
        int allOfAny = x.allFormula(credits, x.anyFormula(all, none));
        x.require(3, allOfAny);
        Check.due("39: through all, any and all", x.whyNot(0, 3), mark);
        Check.due("40: through all, any and all", x.whyLong(0, 3), 4);
        int third = x.twoFormula(credits, mark, together);
        x.require(3, third);
        x.enroll(0, 1);
        Check.dueThrow("39: it holds", STATE, () -> x.whyNot(0, 3));
        Check.dueThrow("40: it holds", STATE, () -> x.whyLong(0, 3));
        Check.due("39: for the other student", x.whyNot(1, 3), mark);
    }

    private static void longestReason() {
        Prereqs x = office();
        int last = x.creditsFormula(1);
        int yes = x.creditsFormula(0);
        for (int depth = 1; depth <= 5; depth++) {
            last = depth % 2 == 0 ? x.allFormula(yes, last) : x.twoFormula(yes, last, 0);
        }
        x.require(0, last);
        Check.due("39: six formulas", x.whyNot(0, 0), 0);
        Check.due("40: six formulas", x.whyLong(0, 0), 6);
    }

    private static void reasonsThatAreNot() {
        Prereqs x = office();
        Check.dueThrow("39: no formula", ELEMENT, () -> x.whyNot(0, 0));
        Check.dueThrow("40: no formula", ELEMENT, () -> x.whyLong(0, 0));
        Check.dueThrow("39: student", INDEX, () -> x.whyNot(2, 0));
        Check.dueThrow("39: course", INDEX, () -> x.whyNot(0, 4));
        Check.dueThrow("39: student -1", INDEX, () -> x.whyNot(-1, 0));
        Check.dueThrow("39: course -1", INDEX, () -> x.whyNot(0, -1));
        Check.dueThrow("40: student", INDEX, () -> x.whyLong(2, 0));
        Check.dueThrow("40: course", INDEX, () -> x.whyLong(0, 4));
    }

    private static void termsTo() {
        Prereqs x = office();
        Check.due("41: at once", x.termsTo(0), 1);
        x.require(1, x.markFormula(0, 100));
        x.require(2, x.allFormula(x.togetherFormula(1), x.creditsFormula(3)));
        Check.due("41: the second", x.termsTo(1), 2);
        Check.due("41: together does not hold at the beginning", x.termsTo(2), 3);
        x.require(3, x.creditsFormula(5));
        Check.due("41: the credits of all courses count", x.termsTo(3), 4);
        x.lift(3);
        Check.due("41: lifted", x.termsTo(3), 1);
        x.require(0, 0);
        Check.dueThrow("41: in a circle", ELEMENT, () -> x.termsTo(0));
        Check.dueThrow("41: behind the circle", ELEMENT, () -> x.termsTo(1));
        Check.dueThrow("41: course", INDEX, () -> x.termsTo(4));
        Check.dueThrow("41: course -1", INDEX, () -> x.termsTo(-1));
    }

    private static void termsToIsOfSomebodyNew() {
        Prereqs x = office();
        x.moveIn(0, 0);
        x.require(1, x.markFormula(0, 1));
        Check.due("41: no student's record counts", x.termsTo(1), 2);
        Check.due("41: it leaves no trace", x.termsTo(1), 2);
        x.require(0, x.noneFormula(x.togetherFormula(2)));
        x.require(2, x.noneFormula(x.togetherFormula(0)));
        Check.due("41: nobody is enrolled at the beginning", x.termsTo(2), 1);
        x.require(3, x.allFormula(0, x.noneFormula(x.togetherFormula(1))));
        Check.due("41: just in time", x.termsTo(3), 2);
        x.require(3, x.allFormula(x.markFormula(1, 1), x.noneFormula(x.togetherFormula(0))));
        Check.dueThrow("41: too late for good", ELEMENT, () -> x.termsTo(3));
    }

    private static void termsToByTwenty() {
        Prereqs x = new Prereqs();
        for (int course = 0; course < 20; course++) {
            x.addCourse(1, 1);
            if (course > 0) {
                x.require(course, x.markFormula(course - 1, 100));
            }
        }
        Check.due("41: the longest way", x.termsTo(19), 20);
    }

    public static void main(String[] arguments) {
        markFormula();
        togetherFormula();
        waitingIsNotTogether();
        creditsFormula();
        parts();
        partsThatAreNot();
        depths();
        depthsOfAllBeginnings();
        sixtyFormulas();
        holds();
        requireAndLift();
        requireAndLiftLetIn();
        reasons();
        longestReason();
        reasonsThatAreNot();
        termsTo();
        termsToIsOfSomebodyNew();
        termsToByTwenty();
        Check.end();
    }
}
