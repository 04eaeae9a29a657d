import java.util.NoSuchElementException;

/** Promises 44 to 54: rules, best matches, short rules, degrees, and whether all is sound. */
public final class AuditTest {
    private static final Class<IllegalArgumentException> ARGUMENT = IllegalArgumentException.class;
    private static final Class<IllegalStateException> STATE = IllegalStateException.class;
    private static final Class<IndexOutOfBoundsException> INDEX = IndexOutOfBoundsException.class;
    private static final Class<NoSuchElementException> ELEMENT = NoSuchElementException.class;

    /** Courses of 1 credit, of which students of major 0 and 1 have credit moved in for the first ones. */
    private static Prereqs office(int courses, int passed) {
        Prereqs x = new Prereqs();
        x.addStudent(0);
        x.addStudent(1);
        for (int course = 0; course < courses; course++) {
            x.addCourse(1, 12);
        }
        for (int course = 0; course < passed; course++) {
            x.moveIn(0, course);
            x.moveIn(1, course);
        }
        return x;
    }

    private static int rule(Prereqs x, int major, int need, int mark, int... allowed) {
        int rule = x.addRule(major, need, mark);
        for (int course : allowed) {
            x.allow(rule, course);
        }
        return rule;
    }

    private static void dueMet(String what, Prereqs x, int met, int lacking) {
        Check.due("46: " + what, x.mostMet(0), met);
        Check.due("47: " + what, x.mostMetByTrial(0), met);
        Check.due("49: " + what, x.lackingRules(0), lacking);
        Check.due("50: " + what, x.lackingByTrial(0), lacking);
        Check.due("54: " + what, x.isSound(), true);
    }

    /** What ruleFor() answers for each course of a row; -1 is for no rule. */
    private static void dueRules(String what, Prereqs x, int... rules) {
        for (int course = 0; course < rules.length; course++) {
            int asked = course;
            String told = "51: " + what + ", course " + course;
            if (rules[course] < 0) {
                Check.dueThrow(told, ELEMENT, () -> x.ruleFor(0, asked));
            } else {
                Check.due(told, x.ruleFor(0, course), rules[course]);
            }
        }
    }

    private static void addRule() {
        Prereqs x = office(1, 1);
        Check.due("44: least", x.addRule(0, 1, 0), 0);
        Check.due("44: most", x.addRule(3, 3, 100), 1);
        for (int[] wrong : new int[][] {{-1, 1, 0}, {4, 1, 0}, {0, 0, 0}, {0, 4, 0}, {0, 1, -1}, {0, 1, 101}}) {
            Check.dueThrow("44: range", ARGUMENT, () -> x.addRule(wrong[0], wrong[1], wrong[2]));
        }
        for (int rule = 2; rule < 5; rule++) {
            Check.due("44: one more", x.addRule(0, 2, 50), rule);
        }
        Check.dueThrow("44: five of major 0", STATE, () -> x.addRule(0, 1, 0));
        Check.dueThrow("44: the range comes first", ARGUMENT, () -> x.addRule(0, 4, 0));
        for (int rule = 5; rule < 8; rule++) {
            Check.due("44: of major 3", x.addRule(3, 1, 1), rule);
        }
        Check.dueThrow("44: five of major 3", STATE, () -> x.addRule(3, 1, 0));
        for (int rule = 8; rule < 16; rule++) {
            Check.due("44: of the others", x.addRule(1 + rule % 2, 1, 1), rule);
        }
        Check.due("49: without allowed courses all are short", x.lackingRules(0), 1 + 4 + 8 + 16);
        Check.due("50: without allowed courses all are short", x.lackingByTrial(0), 1 + 4 + 8 + 16);
        Check.due("49: rule 15 is of major 2", x.lackingRules(1), (1 << 9) + (1 << 11) + (1 << 13) + (1 << 15) >> 1);
        Check.due("46: nothing allowed", x.mostMet(0), 0);
    }

    private static void allow() {
        Prereqs x = office(2, 1);
        x.addRule(0, 1, 0);
        Check.due("45: new", x.allow(0, 0), true);
        Check.due("45: again", x.allow(0, 0), false);
        Check.due("45: another", x.allow(0, 1), true);
        Check.dueThrow("45: rule", ELEMENT, () -> x.allow(1, 9));
        Check.dueThrow("45: rule -1", ELEMENT, () -> x.allow(-1, 0));
        Check.dueThrow("45: course", INDEX, () -> x.allow(0, 2));
        Check.dueThrow("45: course -1", INDEX, () -> x.allow(0, -1));
        Check.due("46: allowed and passed", x.mostMet(0), 1);
    }

    private static void noRules() {
        Prereqs x = office(2, 2);
        dueMet("no rules", x, 0, 0);
        Check.due("48: no rules", x.mostMetIf(0), 0);
        Check.due("53: no rules", x.canGraduate(0), true);
        dueRules("no rules", x, -1, -1);
        rule(x, 1, 2, 0, 0, 1);
        dueMet("rules of another major", x, 0, 0);
        Check.due("46: of that major", x.mostMet(1), 2);
        Check.due("51: of that major", x.ruleFor(1, 1), 0);
        x.changeMajor(0, 1);
        dueMet("of the new major", x, 2, 0);
    }

    private static void marksThatCount() {
        Prereqs x = office(4, 0);
        rule(x, 0, 3, 0, 0, 1, 2);
        rule(x, 0, 3, 60, 0, 1, 2);
        for (int course = 0; course < 4; course++) {
            x.enroll(0, course);
        }
        x.pass(21);
        x.mark(0, 0, 49);
        x.mark(0, 1, 59);
        x.mark(0, 2, 60);
        x.mark(0, 3, 100);
        dueMet("no marks yet", x, 0, 3);
        x.endTerm();
        dueMet("59 for the first alone, 60 for both, 49 for none", x, 2, 3);
        dueRules("the lowest rule", x, -1, 0, 0, -1);
    }

    private static void oneCourseForOneRule() {
        Prereqs x = office(3, 3);
        rule(x, 0, 1, 0, 0);
        rule(x, 0, 1, 0, 0);
        dueMet("two want one", x, 1, 3);
        dueRules("two want one", x, 0, -1, -1);
        x.allow(0, 1);
        dueMet("the first gives way", x, 2, 0);
        dueRules("course 0 goes to the lowest all the same, or not", x, 1, 0, -1);
        Check.due("53: none is short", x.canGraduate(0), true);
    }

    private static void longWayOfGivingOn() {
        Prereqs x = office(4, 4);
        rule(x, 0, 1, 0, 0, 1);
        rule(x, 0, 1, 0, 1, 2);
        rule(x, 0, 1, 0, 2, 3);
        rule(x, 0, 1, 0, 0);
        dueMet("each gives on", x, 4, 0);
        dueRules("each gives on", x, 3, 0, 1, 2);
    }

    /** Courses are given in the order of their numbers, so the third and the fourth move what was given. */
    private static void givingOnTwice() {
        Prereqs x = office(5, 5);
        rule(x, 0, 1, 0, 0, 1, 2);
        rule(x, 0, 1, 0, 0, 3);
        rule(x, 0, 1, 0, 1, 4);
        rule(x, 0, 1, 0, 0);
        dueMet("the first gives on twice", x, 4, 0);
        dueRules("the first gives on twice", x, 3, 0, -1, 1, 2);
    }

    /** Course 2 comes to a rule by pushing course 1 on, and can leave it again in another best match. */
    private static void shortThroughWhatWasGivenOn() {
        Prereqs x = office(3, 3);
        rule(x, 0, 1, 0, 1, 2);
        rule(x, 0, 1, 0, 0, 2);
        rule(x, 0, 1, 0, 1);
        rule(x, 0, 1, 0, 0);
        dueMet("each can be the short one", x, 3, 15);
        dueRules("each can be the short one", x, 1, 2, 0);
    }

    private static void enrollmentsAreNoAttempts() {
        Prereqs x = office(4, 1);
        rule(x, 0, 2, 0, 0, 1);
        x.enroll(0, 1);
        Check.due("49: asked first", x.lackingRules(0), 1);
        dueMet("one passed, one enrolled", x, 1, 1);
        dueRules("one passed, one enrolled", x, 0, -1, -1, -1);
        Check.due("53: not yet", x.canGraduate(0), false);
        Check.due("48: by then", x.mostMetIf(0), 2);
    }

    private static void lackingOfOneStudentAfterAnother() {
        Prereqs x = office(4, 2);
        rule(x, 0, 2, 0, 0, 1);
        rule(x, 1, 1, 0, 3);
        Check.due("49: none", x.lackingRules(0), 0);
        Check.due("49: of the next", x.lackingRules(1), 2);
        Check.due("49: none again", x.lackingRules(0), 0);
        Check.due("50: of the next", x.lackingByTrial(1), 2);
        Check.due("50: none again", x.lackingByTrial(0), 0);
    }

    private static void shortInSomeBestMatch() {
        Prereqs x = office(4, 3);
        rule(x, 0, 2, 0, 0, 1);
        rule(x, 0, 2, 0, 1, 2);
        rule(x, 0, 1, 0, 3);
        dueMet("short by turns", x, 3, 7);
        dueRules("short by turns", x, 0, 0, 1, -1);
        Check.due("53: short", x.canGraduate(0), false);
    }

    private static void fullInAllBestMatches() {
        Prereqs x = office(6, 5);
        rule(x, 0, 2, 0, 0, 1);
        rule(x, 0, 3, 0, 2, 3);
        rule(x, 0, 1, 0, 3, 4);
        rule(x, 0, 3, 0, 5);
        dueMet("full, short, full by course 4, short", x, 5, 2 + 8);
        dueRules("full, short, full by course 4", x, 0, 0, 1, 1, 2, -1);
    }

    private static void needsOfThree() {
        Prereqs x = office(13, 12);
        int[] all = {0, 1, 2, 3, 4, 5, 6, 7, 8, 9, 10, 11, 12};
        for (int rule = 0; rule < 4; rule++) {
            rule(x, 0, 3, 50, all);
        }
        dueMet("twelve courses", x, 12, 0);
        dueRules("twelve courses", x, 0, 0, 0, 1, 1, 1, 2, 2, 2, 3, 3, 3, -1);
    }

    private static void moreThanNeeded() {
        Prereqs x = office(4, 4);
        rule(x, 0, 1, 0, 0, 1, 2, 3);
        dueMet("one needed of four", x, 1, 0);
        dueRules("the first course", x, 0, -1, -1, -1);
    }

    private static void numbersAreOfAllMajors() {
        Prereqs x = office(2, 2);
        rule(x, 1, 1, 0, 0);
        rule(x, 0, 1, 0, 1);
        rule(x, 1, 1, 0, 0);
        rule(x, 0, 2, 0, 0);
        dueMet("the rules 1 and 3", x, 2, 8);
        dueRules("the rules 1 and 3", x, 3, 1);
        Check.due("49: the rules 0 and 2", x.lackingRules(1), 5);
        Check.due("50: the rules 0 and 2", x.lackingByTrial(1), 5);
    }

    private static void mostMetIf() {
        Prereqs x = office(4, 1);
        rule(x, 0, 3, 100, 0, 1, 2, 3);
        Check.due("48: enrolled in nothing", x.mostMetIf(0), 0);
        x.enroll(0, 0);
        x.enroll(0, 1);
        Check.due("48: two that would have 100", x.mostMetIf(0), 2);
        Check.due("46: not yet", x.mostMet(0), 0);
        x.enroll(0, 2);
        x.enroll(0, 3);
        Check.due("48: no more than needed", x.mostMetIf(0), 3);
        Check.due("48: it changes nothing", x.attempts(0, 1), 0);
        Check.due("48: nor what is earned", x.earnedCredits(0), 1);
        Check.due("48: of the other", x.mostMetIf(1), 0);
    }

    private static void degrees() {
        Prereqs x = office(3, 2);
        Check.due("52: at first", x.setDegree(0, 2), 0);
        Check.due("53: as many", x.canGraduate(0), true);
        Check.due("52: before", x.setDegree(0, 3), 2);
        Check.due("53: too few", x.canGraduate(0), false);
        Check.due("53: of another major", x.canGraduate(1), true);
        x.moveIn(0, 2);
        Check.due("53: one more", x.canGraduate(0), true);
        rule(x, 0, 1, 51, 0);
        Check.due("53: a short rule", x.canGraduate(0), false);
        x.changeMajor(0, 1);
        Check.due("53: of the new major", x.canGraduate(0), true);
        Check.due("52: most", x.setDegree(1, 120), 0);
        Check.due("53: far too few", x.canGraduate(0), false);
        Check.due("52: least", x.setDegree(1, 0), 120);
        Check.due("52: the last major", x.setDegree(3, 1), 0);
        for (int[] wrong : new int[][] {{-1, 0}, {4, 0}, {0, -1}, {0, 121}}) {
            Check.dueThrow("52: range", ARGUMENT, () -> x.setDegree(wrong[0], wrong[1]));
        }
        Check.due("52: unchanged by what throws", x.setDegree(0, 0), 3);
    }

    private static void studentsThatAreNot() {
        Prereqs x = office(2, 1);
        for (int student : new int[] {-1, 2, Integer.MAX_VALUE}) {
            Check.dueThrow("46: student", INDEX, () -> x.mostMet(student));
            Check.dueThrow("47: student", INDEX, () -> x.mostMetByTrial(student));
            Check.dueThrow("48: student", INDEX, () -> x.mostMetIf(student));
            Check.dueThrow("49: student", INDEX, () -> x.lackingRules(student));
            Check.dueThrow("50: student", INDEX, () -> x.lackingByTrial(student));
            Check.dueThrow("51: student", INDEX, () -> x.ruleFor(student, 0));
            Check.dueThrow("51: course", INDEX, () -> x.ruleFor(0, student));
            Check.dueThrow("53: student", INDEX, () -> x.canGraduate(student));
        }
    }

    public static void main(String[] arguments) {
        addRule();
        allow();
        noRules();
        marksThatCount();
        oneCourseForOneRule();
        longWayOfGivingOn();
        givingOnTwice();
        shortThroughWhatWasGivenOn();
        enrollmentsAreNoAttempts();
        lackingOfOneStudentAfterAnother();
        shortInSomeBestMatch();
        fullInAllBestMatches();
        needsOfThree();
        moreThanNeeded();
        numbersAreOfAllMajors();
        mostMetIf();
        degrees();
        studentsThatAreNot();
        Check.end();
    }
}
