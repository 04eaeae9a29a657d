import java.util.function.Supplier;

/** The edges of promises 44 to 54, sentence by sentence: rules, matches, short rules, degrees, soundness. */
public final class AuditEdgesTest {
    private AuditEdgesTest() {
    }

    /** Courses of 1 credit; student 0 of major 0 has credit moved in for the first ones. */
    private static Prereqs office(int courses, int passed) {
        Prereqs x = new Prereqs();
        x.addStudent(0);
        x.addStudent(1);
        for (int course = 0; course < courses; course++) {
            x.addCourse(1, 2);
        }
        for (int course = 0; course < passed; course++) {
            x.moveIn(0, course);
        }
        return x;
    }

    private static Prereqs with(Prereqs x, int need, int mark, int... allowed) {
        int rule = x.addRule(0, need, mark);
        for (int course : allowed) {
            x.allow(rule, course);
        }
        return x;
    }

    private static Prereqs rules(int major, int count) {
        Prereqs x = office(1, 1);
        for (int rule = 0; rule < count; rule++) {
            x.addRule(major, 1, 0);
        }
        return x;
    }

    private static void due(String what, Prereqs x, int met, int lacking) {
        Edges.due(what + ", mostMet", x.mostMet(0), met);
        Edges.due(what + ", mostMetByTrial", x.mostMetByTrial(0), met);
        Edges.due(what + ", lackingRules", x.lackingRules(0), lacking);
        Edges.due(what + ", lackingByTrial", x.lackingByTrial(0), lacking);
        Edges.due(what + ", canGraduate", x.canGraduate(0), lacking == 0);
        Edges.due(what + ", isSound", x.isSound(), true);
    }

    /** The rules of the courses from 0 on; -1 is for none. */
    private static void dueRules(String what, Prereqs x, int... rules) {
        for (int at = 0; at < rules.length; at++) {
            int course = at;
            Object want = rules[at] < 0 ? "NoSuchElementException" : rules[at];
            Edges.due(what + ", course " + at, Picture.answerOf(x, y -> y.ruleFor(0, course)), want);
        }
    }

    // Promises 44 and 45

    private static void addRule() {
        Edges.sentence(44, "`major`: the major, 0 to 3");
        for (int major = 0; major <= 3; major++) {
            Edges.due("major " + major, office(1, 0).addRule(major, 1, 50), 0);
        }
        Edges.sentence(44, "`need`: how many courses the rule needs, 1 to 3");
        for (int need = 1; need <= 3; need++) {
            due("need " + need, with(office(4, 4), need, 0, 0, 1, 2, 3), need, 0);
            due("one less than " + need, with(office(4, need - 1), need, 0, 0, 1, 2, 3), need - 1, 1);
        }
        Edges.sentence(44, "`mark`: the mark, 0 to 100");
        Edges.due("0", office(1, 0).addRule(0, 1, 0), 0);
        Edges.due("100", office(1, 0).addRule(0, 1, 100), 0);
        Edges.sentence(0, "A rule needs 1 to 3 courses, and has a mark and a set of allowed courses");
        due("three of mark 50", with(office(4, 4), 3, 50, 0, 1, 3), 3, 0);
        due("three of mark 51", with(office(4, 4), 3, 51, 0, 1, 3), 0, 1);
        Edges.sentence(44, "Adds a rule without allowed courses");
        due("beside one that allows some", with(with(office(4, 4), 1, 0, 0, 1, 2, 3), 1, 0), 1, 2);
        Prereqs none = with(office(1, 1), 1, 0);
        Edges.due("none was allowed", none.allow(0, 0), true);
        Edges.sentence(44, "Throws `IllegalArgumentException` if one of them is out of range");
        Edges.refusedBeyond(0, 3, Edges.ARGUMENT, Edges::busy, (x, number) -> x.addRule(number, 1, 0));
        Edges.refusedBeyond(1, 3, Edges.ARGUMENT, Edges::busy, (x, number) -> x.addRule(0, number, 0));
        Edges.refusedBeyond(0, 100, Edges.ARGUMENT, Edges::busy, (x, number) -> x.addRule(0, 1, number));
        Edges.refused("all", Edges.ARGUMENT, Edges::busy, x -> x.addRule(4, 0, -1));
    }

    private static void fourRules() {
        Edges.sentence(44, "Throws `IllegalStateException` if the major has four rules");
        for (int at = 0; at <= 3; at++) {
            int major = at;
            Supplier<Prereqs> four = () -> rules(major, 4);
            Edges.due("the 4th of major " + major, rules(major, 3).addRule(major, 1, 0), 3);
            Edges.refused("the 5th of major " + major, Edges.STATE, four, x -> x.addRule(major, 1, 0));
            Edges.due("the first of the next major", four.get().addRule((major + 1) % 4, 1, 0), 4);
        }
        Edges.sentence(0, "If several exceptions apply, the one that is listed first is thrown");
        for (int at = 0; at <= 3; at++) {
            int major = at;
            Supplier<Prereqs> four = () -> rules(major, 4);
            Edges.refused("44: the need before four", Edges.ARGUMENT, four, x -> x.addRule(major, 0, 0));
            Edges.refused("44: the need 4 before four", Edges.ARGUMENT, four, x -> x.addRule(major, 4, 0));
            Edges.refused("44: the mark before four", Edges.ARGUMENT, four, x -> x.addRule(major, 1, 101));
            Edges.refused("44: the mark -1 before four", Edges.ARGUMENT, four, x -> x.addRule(major, 1, -1));
        }
        Edges.sentence(0, "At most four rules for each major have the numbers 0, 1, 2 and so on, in the order in which "
                + "they were added for all majors");
        Prereqs x = office(1, 0);
        for (int rule = 0; rule < 16; rule++) {
            Edges.due("rule " + rule, x.addRule(3 - rule % 4, 1, 0), rule);
        }
        for (int at = 0; at <= 3; at++) {
            int major = at;
            Edges.due("a 17th", Picture.answerOf(x, y -> y.addRule(major, 1, 0)), "IllegalStateException");
        }
        Edges.due("those of major 0", x.lackingRules(0), 1 << 3 | 1 << 7 | 1 << 11 | 1 << 15);
        Edges.due("those of major 1", x.lackingRules(1), 1 << 2 | 1 << 6 | 1 << 10 | 1 << 14);
        Edges.due("those of major 1, by trial", x.lackingByTrial(1), 1 << 2 | 1 << 6 | 1 << 10 | 1 << 14);
    }

    private static void allow() {
        Edges.sentence(45, "Throws `NoSuchElementException` if there is no such rule");
        Edges.refusedBeyond(0, 2, Edges.ELEMENT, Edges::busy, (x, number) -> x.allow(number, 0));
        Edges.due("the last", Edges.busy().allow(2, 4), true);
        Edges.due("the last of 16", sixteenRules().allow(15, 0), true);
        Edges.refused("16 of 16", Edges.ELEMENT, AuditEdgesTest::sixteenRules, x -> x.allow(16, 0));
        Edges.sentence(45, "Throws `IndexOutOfBoundsException` if there is no such course");
        Edges.refusedBeyond(0, 4, Edges.INDEX, Edges::busy, (x, number) -> x.allow(0, number));
        Edges.sentence(0, "If several exceptions apply, the one that is listed first is thrown");
        Edges.refused("45: the rule before the course", Edges.ELEMENT, Edges::busy, x -> x.allow(3, 5));
        Edges.refused("45: also below", Edges.ELEMENT, Edges::busy, x -> x.allow(-1, -1));
        Edges.sentence(45, "Returns whether the course was not allowed for the rule before the call");
        Prereqs x = Edges.busy();
        Edges.due("it was not", x.allow(0, 1), true);
        Edges.due("it was", x.allow(0, 1), false);
        Edges.due("it was not for another rule", x.allow(1, 1), true);
        Edges.due("another course was not", x.allow(0, 2), true);
        Edges.changesNothing("again", Edges::busy, y -> y.allow(0, 3));
    }

    private static Prereqs sixteenRules() {
        Prereqs x = office(2, 2);
        for (int rule = 0; rule < 16; rule++) {
            x.addRule(rule / 4, 1 + rule % 3, 0);
        }
        return x;
    }

    // Promises 46 to 51

    private static void studentsOutside() {
        Edges.sentence(46, "Throws `IndexOutOfBoundsException` if there is no such student");
        Edges.refusedBeyond(0, 3, Edges.INDEX, Edges::busy, Prereqs::mostMet);
        Edges.sentence(47, "Throws `IndexOutOfBoundsException` if there is no such student");
        Edges.refusedBeyond(0, 3, Edges.INDEX, Edges::busy, Prereqs::mostMetByTrial);
        Edges.sentence(48, "Throws `IndexOutOfBoundsException` if there is no such student");
        Edges.refusedBeyond(0, 3, Edges.INDEX, Edges::busy, Prereqs::mostMetIf);
        Edges.sentence(49, "Throws `IndexOutOfBoundsException` if there is no such student");
        Edges.refusedBeyond(0, 3, Edges.INDEX, Edges::busy, Prereqs::lackingRules);
        Edges.sentence(50, "Throws `IndexOutOfBoundsException` if there is no such student");
        Edges.refusedBeyond(0, 3, Edges.INDEX, Edges::busy, Prereqs::lackingByTrial);
        Edges.sentence(53, "Throws `IndexOutOfBoundsException` if there is no such student");
        Edges.refusedBeyond(0, 3, Edges.INDEX, Edges::busy, Prereqs::canGraduate);
        Edges.sentence(51, "Throws `IndexOutOfBoundsException` if there is no such student or course");
        Edges.refusedBeyond(0, 3, Edges.INDEX, Edges::busy, (x, number) -> x.ruleFor(number, 0));
        Edges.refusedBeyond(0, 4, Edges.INDEX, Edges::busy, (x, number) -> x.ruleFor(0, number));
        Edges.sentence(0, "If several exceptions apply, the one that is listed first is thrown");
        Edges.refused("51: the student before no rule", Edges.INDEX, Edges::busy, x -> x.ruleFor(4, 1));
        Edges.refused("51: the course before no rule", Edges.INDEX, Edges::busy, x -> x.ruleFor(3, 5));
    }

    private static void coursesThatCount() {
        Edges.sentence(0, "A course counts for a rule and a student if it is allowed for the rule, the student has "
                + "passed it, and the best mark of the student in it is not less than the mark of the rule");
        for (int[] of : new int[][] {{0, 49, 0}, {0, 50, 1}, {49, 49, 0}, {50, 50, 1}, {60, 59, 0}, {60, 60, 1},
            {60, 61, 1}, {100, 99, 0}, {100, 100, 1}}) {
            Prereqs x = Edges.study(office(1, 0), 0, 0, of[1]);
            due("a best mark of " + of[1] + " for " + of[0], with(x, 1, of[0], 0), of[2], 1 - of[2]);
        }
        for (int mark : new int[] {0, 50, 51}) {
            due("credit moved in for " + mark, with(office(1, 1), 1, mark, 0), mark == 51 ? 0 : 1, mark == 51 ? 1 : 0);
        }
        due("not allowed", with(office(2, 2), 1, 0), 0, 1);
        due("not passed", with(office(2, 0), 1, 0, 0, 1), 0, 1);
        due("the best mark, not the last", with(Edges.study(office(1, 0), 0, 0, 70, 10, -1), 1, 70, 0), 1, 0);
        due("a withdrawal alone", with(Edges.study(office(1, 0), 0, 0, -1), 1, 0, 0), 0, 1);
    }

    private static void atMostOneRule() {
        Edges.sentence(0, "a course is given to one rule at most, for which it counts, and a rule gets at most as many "
                + "courses as it needs");
        due("no rules", office(3, 3), 0, 0);
        due("a course for two rules", with(with(office(1, 1), 1, 0, 0), 1, 0, 0), 1, 3);
        due("two courses for two rules", with(with(office(2, 2), 1, 0, 0, 1), 1, 0, 0), 2, 0);
        due("two courses for a need of one", with(office(2, 2), 1, 0, 0, 1), 1, 0);
        due("four courses for a need of three", with(office(4, 4), 3, 0, 0, 1, 2, 3), 3, 0);
        due("a course for four rules", fourAlike(1, 1), 1, 15);
        due("three courses for four rules", fourAlike(3, 1), 3, 15);
        due("four courses for four rules", fourAlike(4, 1), 4, 0);
        due("five courses for four rules", fourAlike(5, 1), 4, 0);
        due("eleven courses for four rules of three", fourAlike(11, 3), 11, 15);
        due("twelve courses for four rules of three", fourAlike(12, 3), 12, 0);
        Edges.due("no rules, mostMetIf", office(3, 3).mostMetIf(0), 0);
    }

    /** Four rules for each of which all courses count. */
    private static Prereqs fourAlike(int courses, int need) {
        Prereqs x = office(courses, courses);
        for (int rule = 0; rule < 4; rule++) {
            x.addRule(0, need, 0);
            for (int course = 0; course < courses; course++) {
                x.allow(rule, course);
            }
        }
        return x;
    }

    private static void twentyCourses() {
        Edges.sentence(46, "Returns how many courses a best match of a student gives to rules");
        Prereqs x = office(20, 0);
        for (int course = 0; course < 18; course++) {
            x.enroll(0, course + 2);
        }
        x.pass(21);
        for (int course = 0; course < 18; course++) {
            x.mark(0, course + 2, 100);
        }
        x.endTerm();
        x.moveIn(0, 0);
        x.moveIn(0, 1);
        for (int rule = 0; rule < 4; rule++) {
            with(x, 3, rule == 3 ? 100 : 0);
            for (int course = 0; course < 20; course++) {
                x.allow(rule, course);
            }
        }
        due("20 courses for 12", x, 12, 0);
        dueRules("the first twelve", x, 0, 0, 0, 1, 1, 1, 2, 2, 2, 3, 3, 3, -1, -1, -1, -1, -1, -1, -1, -1);
        Prereqs last = with(Edges.study(office(20, 0), 0, 19, 50), 1, 0, 19);
        due("the last course", last, 1, 0);
        Edges.due("the last course's rule", last.ruleFor(0, 19), 0);
    }

    private static void enrolledCoursesDoNotCount() {
        Edges.sentence(0, "the student has passed it, and the best mark of the student in it");
        Prereqs x = with(office(2, 0), 1, 0, 0, 1);
        x.enroll(0, 0);
        due("enrolled", x, 0, 1);
        dueRules("enrolled", x, -1, -1);
        x.moveIn(0, 1);
        due("enrolled in one that is not passed", x, 1, 0);
        dueRules("enrolled in one that is not passed", x, -1, 0);
        Edges.onDay(21, x);
        x.mark(0, 0, 100);
        due("a mark of the term", x, 1, 0);
        dueRules("a mark of the term", x, -1, 0);
        x.endTerm();
        dueRules("an attempt", x, 0, -1);
    }

    private static void courseNineteen() {
        Edges.sentence(0, "A rule is short in a match if it gets fewer courses than it needs");
        Prereqs x = Edges.study(office(20, 0), 0, 19, 60);
        due("two want the last course", with(with(x, 1, 0, 19), 1, 0, 19), 1, 3);
        Edges.due("the lower one gets it", x.ruleFor(0, 19), 0);
    }

    private static void coursesThatAreGivenOn() {
        Edges.sentence(46, "found by giving one course after another");
        due("course 3 moves all of them", givenOn(), 4, 0);
        dueRules("course 3 moves all of them", givenOn(), 1, 2, 3, 0);
        Prereqs three = with(with(with(office(4, 4), 1, 0, 0, 1, 2), 1, 0, 0, 3), 1, 0, 1);
        due("the first gives on twice", three, 3, 0);
        Prereqs again = with(with(with(with(office(4, 4), 1, 0, 1, 2, 3), 1, 0, 1), 1, 0, 0, 2), 1, 0, 0);
        due("the first takes a course and gives it on", again, 4, 0);
        dueRules("the first takes a course and gives it on", again, 3, 1, 2, 0);
        Prereqs whole = with(with(with(office(6, 6), 2, 0, 0, 1, 2, 3), 2, 0, 0, 1, 4), 2, 0, 2, 4, 5);
        due("needs of two", whole, 6, 0);
    }

    /** Each of the courses 0 to 2 fits two rules that follow, and course 3 the first rule alone. */
    private static Prereqs givenOn() {
        Prereqs x = with(office(4, 4), 1, 0, 0, 3);
        with(x, 1, 0, 0, 1);
        with(x, 1, 0, 1, 2);
        return with(x, 1, 0, 2);
    }

    private static void mostMetIf() {
        Edges.sentence(48, "if, in each course in which it is enrolled, it had one more attempt that is the mark 100");
        Prereqs x = with(office(4, 1), 3, 100, 0, 1, 2, 3);
        Edges.due("enrolled in nothing", x.mostMetIf(0), 0);
        x.enroll(0, 1);
        Edges.due("a course of which it had nothing", x.mostMetIf(0), 1);
        x.enroll(0, 0);
        Edges.due("a course that it has passed with less", x.mostMetIf(0), 2);
        x.enroll(0, 2);
        x.enroll(0, 3);
        Edges.due("no more than the need", x.mostMetIf(0), 3);
        Edges.due("not so now", x.mostMet(0), 0);
        Edges.changesNothing("asked", AuditEdgesTest::enrolledInAll, y -> y.mostMetIf(0));
        Prereqs waits = Edges.office(2, 1, 1);
        waits.addRule(0, 1, 0);
        waits.allow(0, 0);
        waits.enroll(1, 0);
        waits.enroll(0, 0);
        Edges.due("waiting is not enrolled", waits.mostMetIf(0), 0);
        Edges.due("enrolled", waits.mostMetIf(1), 1);
        Prereqs beside = with(office(3, 1), 3, 0, 0, 1, 2);
        beside.enroll(0, 1);
        Edges.due("one passed and one enrolled", beside.mostMetIf(0), 2);
        Prereqs failed = with(Edges.study(office(1, 0), 0, 0, 10, 20), 1, 100, 0);
        failed.enroll(0, 0);
        Edges.due("a third attempt", failed.mostMetIf(0), 1);
    }

    private static Prereqs enrolledInAll() {
        Prereqs x = with(office(3, 1), 2, 100, 0, 1, 2);
        for (int course = 0; course < 3; course++) {
            x.enroll(0, course);
        }
        return x;
    }

    private static void shortRules() {
        Edges.sentence(0, "A rule is short in a match if it gets fewer courses than it needs");
        due("0 of 1", with(office(1, 0), 1, 0, 0), 0, 1);
        due("1 of 1", with(office(1, 1), 1, 0, 0), 1, 0);
        due("2 of 3", with(office(3, 2), 3, 0, 0, 1, 2), 2, 1);
        due("3 of 3", with(office(3, 3), 3, 0, 0, 1, 2), 3, 0);
        Edges.sentence(49, "Returns the rules that are short in at least one best match of a student");
        Prereqs x = with(with(with(office(3, 2), 1, 0, 0), 1, 0, 0, 1), 1, 0, 2);
        due("full by a course each; the third is short", x, 2, 4);
        Prereqs y = with(with(with(office(3, 2), 1, 0, 0, 1), 1, 0, 1, 0), 1, 0, 1);
        due("each of three by turns", y, 2, 7);
        Prereqs z = with(with(office(3, 2), 2, 0, 0, 1), 1, 0, 1);
        due("two rules want the second", z, 2, 3);
        Edges.sentence(49, "Returns the sum of 2 to the power of the number of each such rule");
        Edges.due("none", office(1, 1).lackingRules(0), 0);
        Edges.due("rule 0", with(office(1, 0), 1, 0).lackingRules(0), 1);
        Edges.due("rule 12 to 15", lastOfSixteen().lackingRules(0), 0xF000);
        Edges.sentence(50, "Returns the sum of 2 to the power of the number of each such rule");
        Edges.due("none", office(1, 1).lackingByTrial(0), 0);
        Edges.due("rule 0", with(office(1, 0), 1, 0).lackingByTrial(0), 1);
        Edges.due("rule 12 to 15", lastOfSixteen().lackingByTrial(0), 0xF000);
        Edges.sentence(50, "Returns the same rules, found by asking for each rule whether as many courses can be given "
                + "if the rule needs one course less");
        for (Prereqs each : new Prereqs[] {x, y, z}) {
            Edges.due("the same", each.lackingByTrial(0), each.lackingRules(0));
        }
        Edges.sentence(47, "Returns the same number, found by trying all matches");
        for (Prereqs each : new Prereqs[] {x, y, z}) {
            Edges.due("the same", each.mostMetByTrial(0), each.mostMet(0));
        }
    }

    private static Prereqs lastOfSixteen() {
        Prereqs x = office(1, 1);
        for (int rule = 0; rule < 16; rule++) {
            x.addRule(3 - rule / 4, 1, 0);
        }
        return x;
    }

    private static void firstBestMatch() {
        Edges.sentence(51, "Throws `NoSuchElementException` if the course is given to no rule");
        Edges.refused("not passed", Edges.ELEMENT, AuditEdgesTest::oneRule, x -> x.ruleFor(0, 3));
        Edges.refused("not allowed", Edges.ELEMENT, AuditEdgesTest::oneRule, x -> x.ruleFor(0, 2));
        Edges.refused("not needed", Edges.ELEMENT, AuditEdgesTest::oneRule, x -> x.ruleFor(0, 1));
        Edges.refused("no rules of its major", Edges.ELEMENT, AuditEdgesTest::oneRule, x -> x.ruleFor(1, 0));
        Edges.refused("no rules at all", Edges.ELEMENT, () -> office(3, 3), x -> x.ruleFor(0, 0));
        Edges.due("given", oneRule().ruleFor(0, 0), 0);
        Edges.sentence(0, "the course is given to the lowest-numbered rule for which there is a best match that agrees "
                + "with what is found so far, and to no rule only if there is none for any rule");
        dueRules("two rules alike", with(with(office(2, 2), 1, 0, 0, 1), 1, 0, 0, 1), 0, 1);
        dueRules("the lower one is needed by course 1", with(with(office(2, 2), 1, 0, 0, 1), 1, 0, 0), 1, 0);
        dueRules("course 0 first, though it costs course 1", with(office(2, 2), 1, 0, 0, 1), 0, -1);
        dueRules("a rule of two takes both", with(with(office(2, 2), 2, 0, 0, 1), 1, 0, 0, 1), 0, 0);
        dueRules("the third goes to the next", with(with(office(3, 3), 2, 0, 0, 1, 2), 1, 0, 0, 1, 2), 0, 0, 1);
        dueRules("only course 2 fits the first", with(with(office(3, 3), 1, 0, 2), 1, 0, 0, 1), 1, -1, 0);
        Edges.sentence(0, "beginning with course 0");
        Prereqs x = with(with(with(office(3, 3), 1, 0, 0, 1), 1, 0, 1, 2), 1, 0, 0);
        dueRules("course 0 leaves the first rule for course 1", x, 2, 0, 1);
        Edges.sentence(51, "Returns the rule to which the first best match of a student gives a course");
        Prereqs y = office(1, 0);
        for (int major = 1; major <= 3; major++) {
            for (int rule = 0; rule < 4; rule++) {
                y.addRule(major, 1, 0);
            }
        }
        y.moveIn(0, 0);
        with(y, 1, 0, 0);
        Edges.due("of all majors", y.ruleFor(0, 0), 12);
    }

    /** Courses 0 to 2 of 4 are passed, and 0, 1 and 3 are allowed for the only rule, which needs one. */
    private static Prereqs oneRule() {
        return with(office(4, 3), 1, 0, 0, 1, 3);
    }

    // Promises 52 to 54

    private static void setDegree() {
        Edges.sentence(52, "Sets how many credits a degree of a major needs, 0 at first");
        for (int major = 0; major <= 3; major++) {
            Edges.due("major " + major, new Prereqs().setDegree(major, 1), 0);
        }
        Edges.sentence(52, "`major`: the major, 0 to 3");
        for (int major = 0; major <= 3; major++) {
            Prereqs x = new Prereqs();
            x.setDegree(major, 7);
            for (int other = 0; other <= 3; other++) {
                Edges.due(other + " after " + major, x.setDegree(other, 0), other == major ? 7 : 0);
            }
        }
        Edges.sentence(52, "Returns the number before the call");
        Prereqs before = Edges.busy();
        Edges.due("4", before.setDegree(0, 5), 4);
        Edges.due("5", before.setDegree(0, 5), 5);
        Edges.due("none", before.setDegree(1, 5), 0);
        Edges.sentence(52, "`credits`: the number of credits, 0 to 120");
        Prereqs x = new Prereqs();
        x.setDegree(0, 120);
        Edges.due("120 was taken", x.setDegree(0, 0), 120);
        Edges.due("0 was taken", x.setDegree(0, 1), 0);
        Edges.sentence(52, "Throws `IllegalArgumentException` if one of them is out of range");
        Edges.refusedBeyond(0, 3, Edges.ARGUMENT, Edges::busy, (y, number) -> y.setDegree(number, 1));
        Edges.refusedBeyond(0, 120, Edges.ARGUMENT, Edges::busy, (y, number) -> y.setDegree(0, number));
        Edges.refused("both", Edges.ARGUMENT, Edges::busy, y -> y.setDegree(4, 121));
    }

    private static void canGraduate() {
        Edges.sentence(53, "no rule of its major is short in a best match, and its earned credits are not less than "
                + "the credits that a degree of its major needs");
        Edges.due("nothing asked, nothing earned", office(0, 0).canGraduate(0), true);
        for (int credits = 0; credits <= 5; credits++) {
            Prereqs x = office(4, 3);
            x.setDegree(0, credits);
            Edges.due("3 credits of " + credits, x.canGraduate(0), credits <= 3);
            Edges.due("another major", x.canGraduate(1), true);
        }
        Prereqs x = office(1, 1);
        x.setDegree(0, 120);
        Edges.due("1 credit of 120", x.canGraduate(0), false);
        x.changeMajor(0, 3);
        Edges.due("of another major then", x.canGraduate(0), true);
        for (int need = 1; need <= 3; need++) {
            Edges.due("2 courses of " + need, with(office(3, 2), need, 0, 0, 1, 2).canGraduate(0), need <= 2);
        }
        Prereqs both = with(office(2, 2), 2, 0, 0, 1);
        both.setDegree(0, 2);
        Edges.due("both", both.canGraduate(0), true);
        both.setDegree(0, 3);
        Edges.due("the rule alone", both.canGraduate(0), false);
        both.setDegree(0, 2);
        with(both, 1, 0, 0);
        Edges.due("the credits alone", both.canGraduate(0), false);
        Prereqs other = office(1, 1);
        other.addRule(1, 1, 0);
        Edges.due("a short rule of another major", other.canGraduate(0), true);
        Edges.due("a short rule of its major", other.canGraduate(1), false);
    }

    private static void isSound() {
        Edges.sentence(54, "Checks whether no course has more students enrolled than seats");
        Edges.due("new", new Prereqs().isSound(), true);
        Prereqs full = Edges.office(8, 1, 1);
        for (int student = 0; student < 7; student++) {
            full.enroll(student, 0);
            Edges.due("as many as seats, and " + student + " wait", full.isSound(), true);
        }
        full.drop(0, 0);
        Edges.due("after a drop", full.isSound(), true);
        Edges.sentence(54, "no load is greater than 18");
        Prereqs loaded = Edges.office(1, 6, 1, 6, 1, 6, 1);
        for (int course = 0; course < 3; course++) {
            loaded.enroll(0, course);
        }
        Edges.due("a load of 18", loaded.isSound(), true);
        Edges.sentence(54, "no student on a waiting list can take a seat");
        Prereqs waits = Edges.office(2, 1, 1);
        waits.enroll(0, 0);
        waits.enroll(1, 0);
        waits.require(0, waits.creditsFormula(1));
        waits.drop(0, 0);
        Edges.due("a free seat that nobody can take", waits.isSound(), true);
        Edges.due("it is free", waits.freeSeats(0, 0), 1);
        for (int day = 0; day <= 30; day++) {
            Edges.due("on day " + day, Edges.busyOnDay(day).isSound(), true);
        }
    }

    private static void refusedOneAfterAnother() {
        Edges.sentence(0, "A method that throws an exception changes nothing");
        Edges.changesNothing("many on day 2", Edges::busy, AuditEdgesTest::refuseMany);
        Edges.changesNothing("many on day 30", () -> Edges.busyOnDay(30), AuditEdgesTest::refuseMany);
        Edges.due("the last of them", Picture.answerOf(Edges.busy(), AuditEdgesTest::refuseMany),
                "IllegalArgumentException");
    }

    /** Each call that can be refused is, by one of its arguments; the last one is setDegree. */
    private static Object refuseMany(Prereqs x) {
        Picture.Question[] calls = {y -> y.addCourse(7, 1), y -> y.addStudent(4), y -> y.changeMajor(0, 4),
            y -> y.reserve(1, 1, 2), y -> y.markFormula(0, 101), y -> y.togetherFormula(5), y -> y.creditsFormula(121),
            y -> y.allFormula(0, 7), y -> y.anyFormula(7, 0), y -> y.twoFormula(0, 0, 7), y -> y.noneFormula(7),
            y -> y.require(1, 7), y -> y.lift(5), y -> y.pass(0), y -> y.pass(31), y -> y.enroll(0, 1),
            y -> y.enroll(2, 1), y -> y.drop(3, 0), y -> y.swap(0, 1, 1), y -> y.swap(0, 1, 0), y -> y.mark(0, 1, 101),
            y -> y.mark(0, 0, 50), y -> y.moveIn(0, 0), y -> y.addRule(0, 4, 0), y -> y.allow(3, 0),
            y -> y.allow(0, 5), y -> y.setDegree(0, 121)};
        Object last = "";
        for (Picture.Question call : calls) {
            last = Picture.answerOf(x, call);
            Edges.due("it was refused", last instanceof String, true);
        }
        return last;
    }

    private static void asksChangeNothing() {
        Edges.sentence(0, "all other calls ask");
        for (int day : new int[] {2, 5, 6, 21, 30}) {
            Edges.changesNothing("day " + day, () -> Edges.busyOnDay(day), AuditEdgesTest::askAll);
        }
    }

    /** Fewer than 100 questions, as others are put to the same office. */
    private static Object askAll(Prereqs x) {
        for (int student = 0; student < 4; student++) {
            x.mostMet(student);
            x.mostMetByTrial(student);
            x.mostMetIf(student);
            x.lackingRules(student);
            x.lackingByTrial(student);
            x.canGraduate(student);
            x.transcriptLength(student);
            x.holds(student, 5);
            x.outcome(student, 1);
            x.load(student);
        }
        for (int course = 0; course < 5; course++) {
            x.termsTo(course);
            x.freeSeats(course, course % 4);
            x.share(course);
            x.waiting(course);
            x.enrolled(course);
            x.isEnrolled(2, course);
        }
        x.whyNot(2, 1);
        x.whyLong(3, 0);
        x.ruleFor(0, 0);
        x.transcriptAt(0, 3);
        return x.isSound();
    }

    public static void main(String[] arguments) {
        addRule();
        fourRules();
        allow();
        studentsOutside();
        coursesThatCount();
        atMostOneRule();
        twentyCourses();
        enrolledCoursesDoNotCount();
        courseNineteen();
        coursesThatAreGivenOn();
        mostMetIf();
        shortRules();
        firstBestMatch();
        setDegree();
        canGraduate();
        isSound();
        refusedOneAfterAnother();
        asksChangeNothing();
        Edges.end();
    }
}
