import java.util.ArrayList;
import java.util.List;

/** What the document says before its promises and without naming an edge; -1 stands for "What it is". */
public final class PlainTermsTest {
    private static final int MOST_CALLS = 512;
    /** How many calls Edges.busy() takes. */
    private static final int BUSY_CALLS = 44;

    private PlainTermsTest() {
    }

    // What it is

    private static void wholeOffice() {
        Edges.sentence(-1, "The office of a registrar of a college: courses with requisites that are formulas of courses, "
                + "marks and credits; seats, seats reserved for majors, and waiting lists; drops that end courses taken "
                + "together and let others in; marks, repeats and credit moved in; and degree audits, in which a course "
                + "counts for one rule alone.");
        Prereqs x = Edges.office(2, 2, 1, 3, 1, 4, 2);
        x.require(1, x.togetherFormula(0));
        Edges.due("a requisite", x.outcome(0, 1), 'r');
        x.enroll(0, 0);
        x.enroll(0, 1);
        x.reserve(2, 3, 2);
        Edges.due("seats reserved for a major", x.outcome(0, 2), 'w');
        Edges.due("a waiting list", x.enroll(1, 0), 'w');
        x.drop(0, 0);
        Edges.due("a drop ends what is taken together", x.isEnrolled(0, 1), false);
        Edges.due("and lets another in", x.isEnrolled(1, 0), true);
        Edges.endTerm(x);
        Edges.study(x, 1, 0, 70);
        Edges.due("a repeat", x.attempts(1, 0), 2);
        Edges.due("credit moved in", x.moveIn(1, 1), 3);
        x.allow(x.addRule(0, 1, 0), 0);
        x.allow(x.addRule(0, 1, 0), 0);
        Edges.due("a course counts for one rule alone", x.mostMet(1), 1);
    }

    private static void manyCalls() {
        Edges.sentence(-1, "An object is used for at most 512 calls after it has been made; what later calls answer is free.");
        Prereqs x = Edges.office(1, 6, 1);
        for (int call = 3; call < MOST_CALLS - 1; call += 2) {
            Edges.due("call " + call, x.enroll(0, 0), 'e');
            Edges.due("call " + (call + 1), x.drop(0, 0), 'd');
        }
        Edges.due("call 511", x.enroll(0, 0), 'e');
        Edges.due("call 512", x.load(0), 6);
    }

    private static void manyTerms() {
        Edges.sentence(-1, "An object is used for at most 512 calls after it has been made");
        Prereqs x = new Prereqs();
        for (int term = 0; term < 255; term++) {
            x.pass(30);
            Edges.due("no attempts in term " + term, x.endTerm(), 0);
        }
        Edges.due("call 511", x.term(), 255);
        Edges.due("call 512", x.day(), 0);
    }

    /** What calls fill anew must not tell of the call before. */
    private static void manyQuestions() {
        Edges.sentence(-1, "An object is used for at most 512 calls after it has been made");
        List<Picture.Question> questions = List.of(x -> x.mostMet(0), x -> x.ruleFor(0, 0), x -> x.lackingByTrial(2),
                x -> x.mostMetIf(0), x -> x.transcriptLength(1), x -> x.whyLong(1, 1), x -> x.termsTo(0),
                x -> x.mostMetByTrial(1), x -> x.whyNot(3, 1), x -> x.transcriptAt(0, 1), x -> x.lackingRules(0),
                x -> x.termsTo(1), x -> x.swap(0, 0, 1), x -> x.isSound(), x -> x.canGraduate(0));
        List<Object> first = new ArrayList<>();
        for (Picture.Question question : questions) {
            first.add(Picture.answerOf(Edges.busy(), question));
        }
        Prereqs x = Edges.busy();
        for (int asked = 0; asked < MOST_CALLS - BUSY_CALLS; asked++) {
            int at = asked % questions.size();
            Edges.due("question " + asked, Picture.answerOf(x, questions.get(at)), first.get(at));
        }
    }

    private static void twoOffices() {
        Edges.sentence(1, "Creates an office without courses, students, formulas and rules");
        Prereqs x = Edges.busy();
        Prereqs y = new Prereqs();
        Edges.due("another one is new", Picture.answerOf(y, z -> z.majorOf(0)), "IndexOutOfBoundsException");
        y.addCourse(1, 1);
        y.addStudent(3);
        y.enroll(0, 0);
        Edges.due("its day", y.day(), 0);
        Edges.due("the first one's day", x.day(), 2);
        Edges.due("the first one's student", x.majorOf(0), 0);
    }

    private static void callsAreWhatComes() {
        Edges.sentence(0, "Its calls are what comes to the office in the course of terms; all other calls ask.");
        Prereqs x = Edges.office(2, 3, 1);
        x.require(0, x.noneFormula(x.creditsFormula(1)));
        x.reserve(0, 2, 1);
        x.setDegree(0, 7);
        x.addRule(0, 1, 0);
        Edges.endTerm(x);
        Edges.endTerm(x);
        Edges.due("the course is there", x.share(0), 0.0f);
        Edges.due("its reserved seat", x.reserve(0, 2, 0), 1);
        Edges.due("its requisite", x.lift(0), true);
        Edges.due("the formula", x.holds(1, 1), true);
        Edges.due("the degree", x.setDegree(0, 0), 7);
        Edges.due("the rule", x.lackingRules(1), 1);
    }

    private static void auditsNameRules() {
        Edges.sentence(0, "An audit that fails names the rules that lack courses.");
        Prereqs x = Edges.office(1, 1, 1, 1, 1);
        x.moveIn(0, 0);
        x.allow(x.addRule(0, 1, 0), 0);
        Edges.due("it does not fail", x.canGraduate(0), true);
        Edges.due("and names none", x.lackingRules(0), 0);
        x.allow(x.addRule(0, 1, 0), 1);
        Edges.due("it fails", x.canGraduate(0), false);
        Edges.due("and names rule 1", x.lackingRules(0), 2);
        Edges.due("by trial too", x.lackingByTrial(0), 2);
    }

    // Courses, students and records

    private static void coursesHaveCreditsAndSeats() {
        Edges.sentence(0, "A course has credits and seats, and seats that are reserved for a major, 0 for each major at first.");
        Prereqs x = Edges.office(3, 2, 1, 5, 2);
        x.enroll(0, 0);
        x.enroll(0, 1);
        Edges.due("the credits of both", x.load(0), 7);
        Edges.due("one seat", x.outcome(1, 0), 'w');
        Edges.due("two seats", x.outcome(1, 1), 'e');
        for (int major = 0; major < 4; major++) {
            Edges.due("at first for major " + major, x.reserve(1, major, 0), 0);
        }
        x.reserve(1, 2, 1);
        Edges.due("the last seat is for major 2", x.outcome(1, 1), 'w');
    }

    private static void loads() {
        Edges.sentence(0, "A student is enrolled in courses. Its load is the sum of the credits of these courses.");
        Prereqs x = Edges.office(2, 1, 2, 2, 2, 4, 2);
        for (int set = 0; set < 8; set++) {
            int load = 0;
            for (int course = 0; course < 3; course++) {
                boolean isIn = (set >> course & 1) != 0;
                if (isIn != x.isEnrolled(0, course)) {
                    Edges.due("one more or less", isIn ? x.enroll(0, course) : x.drop(0, course), isIn ? 'e' : 'd');
                }
                load += isIn ? 1 << course : 0;
            }
            Edges.due("the load of set " + set, x.load(0), load);
            Edges.due("that of the other", x.load(1), 0);
        }
    }

    private static void creditMovedIn() {
        Edges.sentence(0, "It may also have credit moved in for a course.");
        Prereqs x = Edges.study(Edges.office(2, 3, 2, 4, 2), 0, 0, 20, 30);
        x.moveIn(0, 0);
        Edges.due("besides its attempts", x.attempts(0, 0), 2);
        Edges.due("its best mark", x.bestMark(0, 0), 50);
        Edges.due("not for another course", Picture.answerOf(x, y -> y.bestMark(0, 1)), "NoSuchElementException");
        Edges.due("not for another student", Picture.answerOf(x, y -> y.bestMark(1, 0)), "NoSuchElementException");
        Edges.sentence(0, "if it has neither, it has no best mark there.");
        Edges.study(x, 1, 1, -1);
        Edges.due("a withdrawal is no mark", Picture.answerOf(x, y -> y.bestMark(1, 1)), "NoSuchElementException");
        Edges.due("and does not reach mark 0", x.holds(1, x.markFormula(1, 0)), false);
    }

    private static void earned() {
        Edges.sentence(0, "Its earned credits are the sum of the credits of the courses that it has passed.");
        Prereqs x = Edges.office(1, 1, 1, 2, 1, 4, 1, 6, 1);
        Edges.study(x, 0, 0, 50);
        Edges.study(x, 0, 1, 49);
        Edges.study(x, 0, 2, 100, 0);
        Edges.due("of 1 and 4 credits", x.earnedCredits(0), 5);
        x.moveIn(0, 3);
        Edges.due("with 6 moved in", x.earnedCredits(0), 11);
    }

    // Formulas and reasons

    private static void holdsOrNot() {
        Edges.sentence(0, "A formula holds for a student or it does not:");
        Prereqs x = Edges.busy();
        for (int formula = 0; formula < 7; formula++) {
            int none = x.noneFormula(formula);
            for (int student = 0; student < 4; student++) {
                boolean other = !x.holds(student, none);
                Edges.due("formula " + formula + ", student " + student, x.holds(student, formula), other);
            }
        }
    }

    private static void plainFormulas() {
        Prereqs x = Edges.study(Edges.office(1, 3, 1, 4, 1, 5, 1), 0, 1, 60);
        Edges.sentence(0, "A mark formula has a course and a mark. "
                + "It holds if the student has a best mark in the course that is this mark or more.");
        Edges.due("the course and the mark", x.holds(0, x.markFormula(1, 60)), true);
        Edges.due("another mark", x.holds(0, x.markFormula(1, 61)), false);
        Edges.due("another course", x.holds(0, x.markFormula(0, 60)), false);
        Edges.sentence(0, "A together formula has a course.");
        x.enroll(0, 2);
        Edges.due("enrolled", x.holds(0, x.togetherFormula(2)), true);
        Edges.due("passed", x.holds(0, x.togetherFormula(1)), true);
        Edges.due("another course", x.holds(0, x.togetherFormula(0)), false);
        Edges.sentence(0, "A credits formula has a number of credits.");
        Edges.due("4", x.holds(0, x.creditsFormula(4)), true);
        Edges.due("5", x.holds(0, x.creditsFormula(5)), false);
    }

    private static void partsOfFormulas() {
        Prereqs x = Edges.office(1, 1, 1);
        int yes = x.creditsFormula(0);
        int no = x.creditsFormula(1);
        int[] parts = {yes, no};
        Edges.sentence(0, "An all formula has two parts.");
        for (int set = 0; set < 4; set++) {
            Edges.due("set " + set, x.holds(0, x.allFormula(parts[set & 1], parts[set >> 1])), set == 0);
        }
        Edges.sentence(0, "An any formula has two parts.");
        for (int set = 0; set < 4; set++) {
            Edges.due("set " + set, x.holds(0, x.anyFormula(parts[set & 1], parts[set >> 1])), set != 3);
        }
        Edges.sentence(0, "A two formula has three parts.");
        for (int set = 0; set < 8; set++) {
            int formula = x.twoFormula(parts[set & 1], parts[set >> 1 & 1], parts[set >> 2]);
            Edges.due("set " + set, x.holds(0, formula), Integer.bitCount(set) <= 1);
        }
        Edges.sentence(0, "A none formula has one part.");
        Edges.due("that holds", x.holds(0, x.noneFormula(yes)), false);
        Edges.due("that does not", x.holds(0, x.noneFormula(no)), true);
    }

    /** One formula of each kind; the last number is that of the last one. */
    private static Prereqs oneOfEachKind() {
        Prereqs x = Edges.office(1, 1, 1);
        x.markFormula(0, 50);
        x.togetherFormula(0);
        x.creditsFormula(1);
        x.allFormula(0, 1);
        x.anyFormula(1, 2);
        x.twoFormula(0, 1, 2);
        x.noneFormula(0);
        return x;
    }

    private static void partsAreFormulas() {
        Edges.sentence(0, "Parts are formulas; one formula can be several parts of another one.");
        for (int part = 0; part < 7; part++) {
            Prereqs x = oneOfEachKind();
            boolean holds = x.holds(0, part);
            Edges.due("all of two of " + part, x.holds(0, x.allFormula(part, part)), holds);
            Edges.due("any of two of " + part, x.holds(0, x.anyFormula(part, part)), holds);
            Edges.due("two of three of " + part, x.holds(0, x.twoFormula(part, part, part)), holds);
            Edges.due("none of " + part, x.holds(0, x.noneFormula(part)), !holds);
        }
    }

    private static void leastDepth() {
        Edges.sentence(0, "The depth of a mark, together or credits formula is 0;");
        for (int kind = 0; kind < 3; kind++) {
            Prereqs x = oneOfEachKind();
            int last = kind;
            for (int depth = 1; depth <= 5; depth++) {
                last = x.noneFormula(last);
            }
            int deepest = last;
            Edges.due("five above it", deepest, 11);
            Edges.due("no sixth", Picture.answerOf(x, y -> y.noneFormula(deepest)), "IllegalStateException");
        }
    }

    private static void requisites() {
        Edges.sentence(0, "A course can have a formula as its requisite.");
        for (int formula = 0; formula < 7; formula++) {
            Prereqs x = oneOfEachKind();
            x.require(0, formula);
            Edges.due("formula " + formula, x.outcome(0, 0), x.holds(0, formula) ? 'e' : 'r');
        }
    }

    private static void reasonsBegin() {
        Edges.sentence(0, "The reason why a formula does not hold for a student is a row of formulas that begins with this "
                + "formula.");
        for (int formula = 0; formula < 3; formula++) {
            Prereqs x = oneOfEachKind();
            x.require(0, formula);
            Edges.due("a row of one", x.whyLong(0, 0), 1);
            Edges.due("formula " + formula, x.whyNot(0, 0), formula);
        }
        Prereqs x = oneOfEachKind();
        x.require(0, 5);
        Edges.due("a row of two that begins with formula 5", x.whyLong(0, 0), 2);
        Edges.due("and ends with formula 0", x.whyNot(0, 0), 0);
    }

    // Endings and audits

    private static void endings() {
        Edges.sentence(0, "When a student drops a course, the student is not enrolled in it any more;");
        for (int day : new int[] {0, 8, 9, 20}) {
            Prereqs x = Edges.office(2, 3, 2, 4, 2);
            x.enroll(0, 0);
            x.enroll(0, 1);
            x.enroll(1, 0);
            Edges.onDay(day, x).drop(0, 0);
            Edges.due("on day " + day, x.isEnrolled(0, 0), false);
            Edges.due("the other course", x.isEnrolled(0, 1), true);
            Edges.due("the other student", x.isEnrolled(1, 0), true);
            Edges.due("its load", x.load(0), 4);
        }
    }

    /** Student 0 has passed all of four courses; rule 0 is of major 1, and rules 1 and 2 are of major 0. */
    private static Prereqs audited() {
        Prereqs x = Edges.office(1, 1, 1, 1, 1, 1, 1, 1, 1);
        x.addRule(1, 3, 0);
        x.addRule(0, 2, 0);
        x.addRule(0, 1, 0);
        for (int course = 0; course < 4; course++) {
            x.moveIn(0, course);
            x.allow(0, course);
        }
        x.allow(1, 1);
        x.allow(1, 2);
        x.allow(2, 1);
        return x;
    }

    private static void matches() {
        Edges.sentence(0, "A match of a student gives courses to the rules of the major of the student:");
        Prereqs x = audited();
        Edges.due("two by the rules of major 0", x.mostMet(0), 2);
        Edges.due("course 1", x.ruleFor(0, 1), 1);
        x.changeMajor(0, 1);
        Edges.due("three by the rule of major 1", x.mostMet(0), 3);
        Edges.due("course 1 then", x.ruleFor(0, 1), 0);
        x.changeMajor(0, 2);
        Edges.due("none", x.mostMet(0), 0);
        Edges.sentence(0, "A best match gives as many courses as any match.");
        Edges.due("not one of three that could be given", audited().mostMet(0), 2);
        Edges.due("by trial", audited().mostMetByTrial(0), 2);
    }

    private static void firstBestMatch() {
        Edges.sentence(0, "Of several best matches, the first one is found course by course, beginning with course 0:");
        Prereqs x = Edges.office(1, 1, 1, 1, 1, 1, 1);
        x.addRule(0, 1, 0);
        x.addRule(0, 1, 0);
        for (int course = 0; course < 3; course++) {
            x.moveIn(0, course);
            x.allow(0, course);
            x.allow(1, course);
        }
        Edges.due("course 0", x.ruleFor(0, 0), 0);
        Edges.due("course 1", x.ruleFor(0, 1), 1);
        Edges.due("course 2", Picture.answerOf(x, y -> y.ruleFor(0, 2)), "NoSuchElementException");
    }

    public static void main(String[] arguments) {
        wholeOffice();
        manyCalls();
        manyTerms();
        manyQuestions();
        twoOffices();
        callsAreWhatComes();
        auditsNameRules();
        coursesHaveCreditsAndSeats();
        loads();
        creditMovedIn();
        earned();
        holdsOrNot();
        plainFormulas();
        partsOfFormulas();
        partsAreFormulas();
        leastDepth();
        requisites();
        reasonsBegin();
        endings();
        matches();
        firstBestMatch();
        Edges.end();
    }
}
