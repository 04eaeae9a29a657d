/** All promises at the document's greatest numbers: 20 courses, 16 students, 60 formulas and 16 rules. */
public final class FullOfficeTest {
    private static Prereqs office() {
        Prereqs x = new Prereqs();
        for (int course = 0; course < 20; course++) {
            x.addCourse(1, 2);
        }
        for (int student = 0; student < 16; student++) {
            x.addStudent(student % 4);
        }
        for (int formula = 0; formula < 60; formula++) {
            x.togetherFormula(formula % 20);
        }
        for (int rule = 0; rule < 16; rule++) {
            x.addRule(rule % 4, 3, 0);
        }
        return x;
    }

    private static void eightInEachCourse() {
        Prereqs x = office();
        for (int student = 0; student < 8; student++) {
            for (int course = 0; course < 18; course++) {
                x.enroll(student, course + 2);
            }
        }
        Check.due("35: six wait for the last course", x.waiting(19), 6);
        Check.due("32: the load", x.load(1), 18);
        Check.due("54: sound", x.isSound(), true);
        for (int course = 2; course < 20; course++) {
            x.drop(0, course);
        }
        Check.due("36: the next one", x.placeOf(3, 19), 0);
        Check.due("33: is in", x.isEnrolled(2, 19), true);
        Check.due("54: still sound", x.isSound(), true);
    }

    private static void oneDropEndsAll() {
        Prereqs x = office();
        for (int course = 19; course >= 2; course--) {
            x.enroll(0, course);
        }
        for (int course = 2; course < 19; course++) {
            x.require(course, course + 1);
        }
        Check.due("22: the last of a chain", x.drop(0, 19), 'd');
        Check.due("32: all has ended", x.load(0), 0);
    }

    private static void oneSeatLetsIntoAll() {
        Prereqs x = office();
        for (int course = 2; course < 20; course++) {
            x.enroll(1, course);
            x.enroll(2, course);
            x.enroll(0, course);
        }
        for (int course = 2; course < 19; course++) {
            x.require(course, course + 1);
        }
        Check.due("35: it waits for the first", x.waiting(2), 1);
        x.drop(1, 19);
        Check.due("20: from the last to the first", x.isEnrolled(0, 2), true);
        Check.due("32: into all", x.load(0), 18);
        Check.due("32: all ended for the other", x.load(1), 0);
    }

    private static void audits() {
        Prereqs x = office();
        for (int course = 0; course < 12; course++) {
            x.moveIn(15, course);
        }
        for (int slot = 0; slot < 4; slot++) {
            for (int course = 0; course < 20; course++) {
                x.allow(4 * slot + 3, course);
            }
        }
        Check.due("46: all", x.mostMet(15), 12);
        Check.due("47: all", x.mostMetByTrial(15), 12);
        Check.due("51: the last", x.ruleFor(15, 11), 15);
        Check.dueThrow("51: not passed", java.util.NoSuchElementException.class, () -> x.ruleFor(15, 19));
        Check.due("53: none is short", x.canGraduate(15), true);
        Check.due("49: all of major 2", x.lackingRules(14), 4 + 64 + 1024 + 16384);
        Check.due("50: all of major 2", x.lackingByTrial(14), 4 + 64 + 1024 + 16384);
        Check.due("54: sound", x.isSound(), true);
    }

    public static void main(String[] arguments) {
        eightInEachCourse();
        oneDropEndsAll();
        oneSeatLetsIntoAll();
        audits();
        Check.end();
    }
}
