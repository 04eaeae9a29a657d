/** What the promises 24 to 54 say without naming an edge: marks, records, seats, reasons, transcripts and audits. */
public final class PlainRecordsTest {
    private PlainRecordsTest() {
    }

    /** Student 0 has 20 and 80 in course 0, of 3 credits, and 40 and a withdrawal in course 1, of 4 credits. */
    private static Prereqs recorded() {
        Prereqs x = Edges.office(2, 3, 2, 4, 2, 5, 2);
        Edges.study(x, 0, 0, 20, 80);
        return Edges.study(x, 0, 1, 40, -1);
    }

    private static String transcript(Prereqs x, int student) {
        StringBuilder text = new StringBuilder();
        for (int at = 0; at < x.transcriptLength(student); at++) {
            text.append(x.transcriptAt(student, at));
        }
        return text.toString();
    }

    // Promises 24 to 28

    private static void marks() {
        Prereqs x = Edges.office(2, 1, 2, 1, 2);
        x.enroll(0, 0);
        x.enroll(0, 1);
        x.enroll(1, 0);
        x.pass(21);
        Edges.sentence(24, "Gives a student a mark of the term in a course, in place of the one that it has.");
        Edges.due("the first", x.mark(0, 0, 90), false);
        Edges.due("of another course", x.mark(0, 1, 70), false);
        Edges.due("of another student", x.mark(1, 0, 60), false);
        Edges.due("in place of 90", x.mark(0, 0, 80), true);
        Edges.sentence(24, "It is no attempt yet.");
        Edges.due("attempts", x.attempts(0, 0), 0);
        Edges.due("the transcript", x.transcriptLength(0), 0);
        Edges.due("earned", x.earnedCredits(0), 0);
        Edges.sentence(25, "Ends the term. Each student gets an attempt in each course in which it is enrolled, which is its "
                + "mark of the term, or the mark 0 if it has none;");
        Edges.due("three", x.endTerm(), 3);
        Edges.due("those of student 0", transcript(x, 0), "0=80;1=70;");
        Edges.due("that of student 1", transcript(x, 1), "0=60;");
        Edges.due("the term has ended", x.term(), 1);
        x.enroll(1, 1);
        x.pass(30);
        Edges.due("one without a mark", x.endTerm(), 1);
        Edges.due("it is 0", transcript(x, 1), "0=60;1=0;");
    }

    private static void bestMarks() {
        Prereqs x = recorded();
        Edges.sentence(27, "Returns the best mark of a student in a course.");
        Edges.due("of 20 and 80", x.bestMark(0, 0), 80);
        Edges.due("of 40 and a withdrawal", x.bestMark(0, 1), 40);
        Edges.sentence(27, "Returns the best mark.");
        x.moveIn(0, 1);
        Edges.due("50 moved in", x.bestMark(0, 1), 50);
        Edges.study(x, 0, 0, 30);
        Edges.due("not the last one", x.bestMark(0, 0), 80);
        Edges.sentence(28, "Returns the number of attempts.");
        Edges.due("three marks", x.attempts(0, 0), 3);
        Edges.due("a mark and a withdrawal", x.attempts(0, 1), 2);
        Edges.due("none", x.attempts(0, 2), 0);
        Edges.due("of the other", x.attempts(1, 0), 0);
    }

    // Promises 29 to 31

    private static void earned() {
        Prereqs x = recorded();
        Edges.sentence(29, "Returns the earned credits of a student.");
        Edges.due("one course", x.earnedCredits(0), 3);
        Edges.due("none", x.earnedCredits(1), 0);
        Edges.sentence(29, "Returns the earned credits.");
        x.moveIn(0, 1);
        Edges.due("with credit moved in", x.earnedCredits(0), 7);
        Edges.sentence(30, "Returns the sum.");
        Edges.due("of one student", x.allEarned(), 7L);
        x.moveIn(1, 2);
        Edges.due("of both", x.allEarned(), 12L);
        Edges.due("of no students", new Prereqs().allEarned(), 0L);
    }

    private static void averages() {
        Edges.sentence(31, "Returns the average of a student. In each course in which it has an attempt that is a mark, the last "
                + "such attempt counts, as often as the course has credits; withdrawals and credit moved in do not count.");
        Prereqs x = recorded();
        Edges.due("80 of 3 credits and 40 of 4", x.average(0), 400.0 / 7.0);
        x.moveIn(0, 2);
        Edges.due("credit moved in", x.average(0), 400.0 / 7.0);
        Edges.study(x, 0, 0, 10);
        Edges.due("10 in place of 80", x.average(0), 190.0 / 7.0);
        Edges.sentence(31, "Returns the sum of these marks, each one times the credits of its course, divided by the sum of "
                + "these credits, both converted to double.");
        Edges.study(x, 0, 2, 67);
        Edges.due("three courses", x.average(0), (10 * 3 + 40 * 4 + 67 * 5) / (double) (3 + 4 + 5));
        Edges.due("one of 0", Edges.study(Edges.office(1, 6, 1), 0, 0, 0).average(0), 0.0);
    }

    // Promises 32 to 38

    /** Students 0 and 1 are in course 0, of 3 seats, and the students 1 to 3 came to course 1, of one seat. */
    private static Prereqs seated() {
        Prereqs x = Edges.office(4, 2, 3, 5, 1, 1, 7);
        x.enroll(0, 0);
        x.enroll(1, 0);
        x.enroll(1, 1);
        x.enroll(2, 1);
        x.enroll(3, 1);
        return x;
    }

    private static void seats() {
        Prereqs x = seated();
        Edges.sentence(32, "Returns the load.");
        int[] loads = {2, 7, 0, 0};
        for (int student = 0; student < 4; student++) {
            Edges.due("of student " + student, x.load(student), loads[student]);
        }
        Edges.sentence(33, "Returns whether it is.");
        Edges.due("enrolled", x.isEnrolled(1, 1), true);
        Edges.due("in another course", x.isEnrolled(0, 1), false);
        Edges.due("waiting", x.isEnrolled(2, 1), false);
        Edges.sentence(34, "Returns the number of students.");
        Edges.due("two", x.enrolled(0), 2);
        Edges.due("one", x.enrolled(1), 1);
        Edges.due("none", x.enrolled(2), 0);
        Edges.sentence(35, "Returns the number of students on it.");
        Edges.due("two", x.waiting(1), 2);
        Edges.due("none", x.waiting(0), 0);
        Edges.sentence(36, "Returns the place of a student on the waiting list of a course.");
        Edges.due("the first", x.placeOf(2, 1), 0);
        Edges.due("the second", x.placeOf(3, 1), 1);
    }

    private static void freeSeatsAndShares() {
        Prereqs x = seated();
        x.reserve(0, 3, 1);
        Edges.sentence(37, "Returns the free seats of a course for a major.");
        Edges.due("for the major with a reserved one", x.freeSeats(0, 3), 1);
        Edges.due("for another", x.freeSeats(0, 2), 0);
        Edges.sentence(37, "Returns the free seats.");
        Edges.due("of a full course", x.freeSeats(1, 0), 0);
        Edges.due("of an empty one", x.freeSeats(2, 0), 7);
        Edges.sentence(38, "Returns the share of the seats of a course that are taken.");
        Edges.due("two of three", x.share(0), 2.0f / 3.0f);
        Edges.due("all", x.share(1), 1.0f);
        Edges.due("none", x.share(2), 0.0f);
    }

    // Promises 39 to 41

    private static void reasons() {
        Prereqs x = Edges.office(1, 1, 1);
        x.creditsFormula(0);
        x.creditsFormula(1);
        x.anyFormula(1, 1);
        x.allFormula(0, 2);
        x.noneFormula(0);
        x.twoFormula(0, 4, 3);
        int[] ends = {1, 1, 1, 4, 4};
        int[] lengths = {1, 2, 3, 1, 2};
        for (int formula = 1; formula <= 5; formula++) {
            x.require(0, formula);
            Edges.sentence(39, "Returns the number of the formula.");
            Edges.due("the last one from " + formula, x.whyNot(0, 0), ends[formula - 1]);
            Edges.sentence(40, "Returns the length of the reason why the requisite of a course does not hold for a student.");
            Edges.due("from " + formula, x.whyLong(0, 0), lengths[formula - 1]);
        }
    }

    private static void termsOfSomebodyNew() {
        Edges.sentence(41, "Returns in how many terms somebody new can pass a course. In each term, this person is enrolled in "
                + "all courses that it has not passed and whose requisites hold for it at the beginning of the term, when it "
                + "is enrolled in no course;");
        Prereqs x = Edges.study(Edges.office(1, 1, 1, 1, 1, 1, 1, 1, 1, 1, 1), 0, 0, 100);
        x.require(1, x.markFormula(0, 100));
        x.require(2, x.togetherFormula(1));
        x.require(3, x.noneFormula(x.creditsFormula(1)));
        x.require(4, x.noneFormula(x.togetherFormula(3)));
        int[] terms = {1, 2, 3, 1, 1};
        for (int course = 0; course < 5; course++) {
            Edges.due("course " + course, x.termsTo(course), terms[course]);
        }
        x.require(4, x.creditsFormula(4));
        Edges.due("as soon as all others are passed", x.termsTo(4), 4);
        x.require(0, x.creditsFormula(2));
        Edges.due("never", Picture.answerOf(x, y -> y.termsTo(0)), "NoSuchElementException");
    }

    // Promises 42 and 43

    private static void transcripts() {
        Edges.sentence(42, "Returns the length of the transcript of a student. The transcript is a text. For each course in which "
                + "the student has credit moved in or an attempt, in the order of the numbers of the courses, it has the "
                + "number of the course, the character '=', the entries of the course with the character ',' between two of "
                + "them, and the character ';'.");
        Prereqs x = recorded();
        Edges.due("two courses", x.transcriptLength(0), "0=20,80;1=40,W;".length());
        Edges.due("nothing", x.transcriptLength(1), 0);
        Edges.sentence(43, "Returns a character of the transcript of a student.");
        Edges.due("all of them", transcript(x, 0), "0=20,80;1=40,W;");
        x.moveIn(0, 2);
        x.moveIn(0, 1);
        Edges.sentence(43, "Returns the character.");
        Edges.due("with credit moved in", transcript(x, 0), "0=20,80;1=T,40,W;2=T;");
        Edges.due("of the other", transcript(x, 1), "");
    }

    // Promises 44 to 51

    /** Student 0 has passed the courses 0 to 3, and is in course 4; rules 0 and 2 are of its major. */
    private static Prereqs audited() {
        Prereqs x = Edges.office(1, 1, 2, 1, 2, 1, 2, 1, 2, 1, 2);
        x.addRule(0, 1, 0);
        x.addRule(1, 3, 0);
        x.addRule(0, 2, 50);
        for (int course = 0; course < 4; course++) {
            x.moveIn(0, course);
        }
        x.enroll(0, 4);
        return x;
    }

    private static void rules() {
        Prereqs x = audited();
        Edges.sentence(44, "Returns the number of the rule.");
        Edges.due("the next one", x.addRule(2, 1, 0), 3);
        Edges.due("whatever its major", x.addRule(0, 1, 0), 4);
        Edges.due("the new one is short", x.lackingRules(0), 1 + 4 + 16);
        Edges.sentence(45, "Allows a course for a rule.");
        x.allow(4, 2);
        Edges.due("course 2", x.ruleFor(0, 2), 4);
        Edges.due("for no other rule", x.lackingRules(0), 1 + 4);
        Edges.due("no other course", Picture.answerOf(x, y -> y.ruleFor(0, 1)), "NoSuchElementException");
    }

    private static void numbersOfCourses() {
        Prereqs x = audited();
        int[][] allowed = {{0, 0}, {2, 0}, {2, 4}, {2, 1}, {0, 3}, {2, 3}};
        int[] most = {1, 1, 1, 2, 3, 3};
        int[] mostWithTerm = {1, 1, 2, 3, 3, 3};
        for (int step = 0; step < allowed.length; step++) {
            x.allow(allowed[step][0], allowed[step][1]);
            Edges.sentence(46, "Returns the number of courses.");
            Edges.due("step " + step, x.mostMet(0), most[step]);
            Edges.sentence(47, "Returns the number of courses.");
            Edges.due("step " + step, x.mostMetByTrial(0), most[step]);
            Edges.sentence(48, "Returns the number of courses.");
            Edges.due("step " + step, x.mostMetIf(0), mostWithTerm[step]);
        }
    }

    private static void withOneMoreAttempt() {
        Edges.sentence(48, "Returns how many courses a best match of a student would give to rules if, in each course in which it "
                + "is enrolled, it had one more attempt that is the mark 100.");
        Prereqs x = Edges.office(2, 1, 1, 1, 1, 1, 1);
        int rule = x.addRule(0, 3, 100);
        for (int course = 0; course < 3; course++) {
            x.allow(rule, course);
        }
        Edges.due("enrolled in none", x.mostMetIf(0), 0);
        x.enroll(0, 0);
        Edges.due("in one", x.mostMetIf(0), 1);
        x.enroll(1, 1);
        x.enroll(0, 1);
        Edges.due("waiting for another", x.mostMetIf(0), 1);
        x.enroll(0, 2);
        Edges.due("in two", x.mostMetIf(0), 2);
        Edges.due("it has no attempt by that", x.attempts(0, 0), 0);
        Edges.due("and nothing is met", x.mostMet(0), 0);
        Edges.onDay(21, x).mark(0, 0, 99);
        Edges.due("99 does not count yet", x.mostMetIf(0), 2);
        x.endTerm();
        Edges.due("99 is not 100", x.mostMetIf(0), 0);
        x.enroll(0, 0);
        Edges.due("100 is better than the 99 that it has", x.mostMetIf(0), 1);
    }

    /** Rules 0 and 2 want course 0 alone, and rule 2 wants one more. */
    private static void lackingFromOneMatch() {
        Edges.sentence(49, "Returns the rules that are short in at least one best match of a student, found from one best match.");
        Prereqs x = audited();
        x.allow(0, 0);
        x.allow(2, 0);
        Edges.due("either may get it", x.lackingRules(0), 1 + 4);
        x.allow(0, 1);
        Edges.due("rule 0 gets course 1 or 2 gets none", x.lackingRules(0), 4);
        x.allow(2, 2);
        Edges.due("none is short", x.lackingRules(0), 0);
        Edges.due("nor of another major", audited().lackingRules(0), 1 + 4);
    }

    private static void rulesOfCourses() {
        Edges.sentence(51, "Returns the number of the rule.");
        Prereqs x = audited();
        x.allow(0, 1);
        x.allow(2, 1);
        x.allow(2, 3);
        Edges.due("course 1", x.ruleFor(0, 1), 0);
        Edges.due("course 3", x.ruleFor(0, 3), 2);
        x.allow(0, 0);
        Edges.due("course 0 takes its place", x.ruleFor(0, 0), 0);
        Edges.due("course 1 then", x.ruleFor(0, 1), 2);
        Edges.due("course 3 still", x.ruleFor(0, 3), 2);
    }

    // Promises 53 and 54

    private static void graduates() {
        Prereqs x = audited();
        Edges.sentence(53, "Returns whether a student can graduate:");
        Edges.due("rules are short", x.canGraduate(0), false);
        for (int course = 0; course < 3; course++) {
            x.allow(course < 1 ? 0 : 2, course);
        }
        Edges.due("none is short", x.canGraduate(0), true);
        Edges.sentence(53, "Returns whether it can.");
        x.setDegree(0, 5);
        Edges.due("4 credits of 5", x.canGraduate(0), false);
        x.setDegree(0, 4);
        Edges.due("4 credits of 4", x.canGraduate(0), true);
        x.changeMajor(0, 1);
        Edges.due("of a major whose rule is short", x.canGraduate(0), false);
    }

    private static void sound() {
        Edges.sentence(54, "Checks whether no course has more students enrolled than seats, no student is both enrolled in a course "
                + "and on its waiting list, no load is greater than 18, no student on a waiting list can take a seat, and "
                + "mostMet() and mostMetByTrial() agree for each student, as do lackingRules() and lackingByTrial().");
        for (int day = 2; day <= 30; day++) {
            Prereqs x = Edges.busyOnDay(day);
            Edges.due("on day " + day, x.isSound(), true);
            for (int course = 0; course < 5; course++) {
                for (int student = 0; student < 4; student++) {
                    boolean isBoth = x.isEnrolled(student, course)
                            && !"NoSuchElementException".equals(placeIn(x, student, course));
                    Edges.due("student " + student + " is in and waits", isBoth, false);
                }
            }
            for (int student = 0; student < 4; student++) {
                Edges.due("the most", x.mostMetByTrial(student), x.mostMet(student));
                Edges.due("the lacking", x.lackingByTrial(student), x.lackingRules(student));
            }
        }
        Edges.sentence(54, "Returns whether all of this holds.");
        Edges.due("in an empty office", new Prereqs().isSound(), true);
        Edges.due("with some who wait", seated().isSound(), true);
        Edges.due("with short rules", audited().isSound(), true);
    }

    private static Object placeIn(Prereqs x, int student, int course) {
        return Picture.answerOf(x, y -> y.placeOf(student, course));
    }

    public static void main(String[] arguments) {
        marks();
        bestMarks();
        earned();
        averages();
        seats();
        freeSeatsAndShares();
        reasons();
        termsOfSomebodyNew();
        transcripts();
        rules();
        numbersOfCourses();
        withOneMoreAttempt();
        lackingFromOneMatch();
        rulesOfCourses();
        graduates();
        sound();
        Edges.end();
    }
}
