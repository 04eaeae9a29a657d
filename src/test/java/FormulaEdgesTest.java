import java.util.function.Supplier;

/** The edges of promises 7 to 16 and 39 to 41, sentence by sentence: formulas, requisites, reasons, terms. */
public final class FormulaEdgesTest {
    /** The formulas of busy() are 0 to 6. */
    private static final int BUSY_FORMULAS = 7;

    private FormulaEdgesTest() {
    }

    /** Two courses, two students, and this many formulas of depth 0, each of which holds for everybody. */
    private static Prereqs formulas(int count) {
        Prereqs x = Edges.office(2, 3, 5, 4, 5);
        for (int formula = 0; formula < count; formula++) {
            x.creditsFormula(0);
        }
        return x;
    }

    /** Formula 0 to 5 have the depths 0 to 5; there are two courses and two students. */
    private static Prereqs deep() {
        Prereqs x = formulas(1);
        for (int depth = 1; depth <= 5; depth++) {
            x.noneFormula(depth - 1);
        }
        return x;
    }

    // Promises 7 to 9

    private static void markFormula() {
        Edges.sentence(7, "Throws `IndexOutOfBoundsException` if there is no such course");
        Edges.refusedBeyond(0, 4, Edges.INDEX, Edges::busy, (x, number) -> x.markFormula(number, 50));
        Edges.due("the first", Edges.busy().markFormula(0, 50), BUSY_FORMULAS);
        Edges.due("the last", Edges.busy().markFormula(4, 50), BUSY_FORMULAS);
        Edges.sentence(7, "`mark`: the mark, 0 to 100");
        Edges.due("0", Edges.busy().markFormula(0, 0), BUSY_FORMULAS);
        Edges.due("100", Edges.busy().markFormula(0, 100), BUSY_FORMULAS);
        Edges.sentence(7, "Throws `IllegalArgumentException` if the mark is out of range");
        Edges.refusedBeyond(0, 100, Edges.ARGUMENT, Edges::busy, (x, number) -> x.markFormula(0, number));
        Edges.sentence(7, "Throws `IllegalStateException` if there are 60 formulas");
        Edges.due("the 60th", formulas(59).markFormula(0, 0), 59);
        Edges.refused("the 61st", Edges.STATE, () -> formulas(60), x -> x.markFormula(0, 0));
    }

    private static void togetherFormula() {
        Edges.sentence(8, "Throws `IndexOutOfBoundsException` if there is no such course");
        Edges.refusedBeyond(0, 4, Edges.INDEX, Edges::busy, Prereqs::togetherFormula);
        Edges.due("the first", Edges.busy().togetherFormula(0), BUSY_FORMULAS);
        Edges.due("the last", Edges.busy().togetherFormula(4), BUSY_FORMULAS);
        Edges.sentence(8, "Throws `IllegalStateException` if there are 60 formulas");
        Edges.due("the 60th", formulas(59).togetherFormula(1), 59);
        Edges.refused("the 61st", Edges.STATE, () -> formulas(60), x -> x.togetherFormula(1));
    }

    private static void creditsFormula() {
        Edges.sentence(9, "`credits`: the number of credits, 0 to 120");
        Edges.due("0", Edges.busy().creditsFormula(0), BUSY_FORMULAS);
        Edges.due("120", Edges.busy().creditsFormula(120), BUSY_FORMULAS);
        Edges.sentence(9, "Throws `IllegalArgumentException` if the number of credits is out of range");
        Edges.refusedBeyond(0, 120, Edges.ARGUMENT, Edges::busy, Prereqs::creditsFormula);
        Edges.sentence(9, "Throws `IllegalStateException` if there are 60 formulas");
        Edges.due("the 60th", formulas(59).creditsFormula(120), 59);
        Edges.refused("the 61st", Edges.STATE, () -> formulas(60), x -> x.creditsFormula(120));
    }

    // Promises 10 to 13

    private static void allFormula() {
        Edges.sentence(10, "Throws `NoSuchElementException` if there is no such formula, for either");
        int last = BUSY_FORMULAS - 1;
        Edges.refusedBeyond(0, last, Edges.ELEMENT, Edges::busy, (x, number) -> x.allFormula(number, 0));
        Edges.refusedBeyond(0, last, Edges.ELEMENT, Edges::busy, (x, number) -> x.allFormula(0, number));
        Edges.refused("both", Edges.ELEMENT, Edges::busy, x -> x.allFormula(-1, -1));
        Edges.due("the first and the last", Edges.busy().allFormula(0, last), BUSY_FORMULAS);
        Edges.due("the last and the first", Edges.busy().allFormula(last, 0), BUSY_FORMULAS);
        Edges.sentence(10, "Throws `IllegalStateException` if there are 60 formulas, "
                + "or the depth would be greater than 5");
        Edges.due("the 60th", formulas(59).allFormula(0, 58), 59);
        Edges.refused("the 61st", Edges.STATE, () -> formulas(60), x -> x.allFormula(0, 59));
        Edges.due("depth 5 by the first", deep().allFormula(4, 0), 6);
        Edges.due("depth 5 by the second", deep().allFormula(0, 4), 6);
        Edges.refused("depth 6 by the first", Edges.STATE, FormulaEdgesTest::deep, x -> x.allFormula(5, 0));
        Edges.refused("depth 6 by the second", Edges.STATE, FormulaEdgesTest::deep, x -> x.allFormula(0, 5));
        Edges.refused("depth 6 by both", Edges.STATE, FormulaEdgesTest::deep, x -> x.allFormula(5, 5));
    }

    private static void anyFormula() {
        Edges.sentence(11, "Throws `NoSuchElementException` if there is no such formula, for either");
        int last = BUSY_FORMULAS - 1;
        Edges.refusedBeyond(0, last, Edges.ELEMENT, Edges::busy, (x, number) -> x.anyFormula(number, 0));
        Edges.refusedBeyond(0, last, Edges.ELEMENT, Edges::busy, (x, number) -> x.anyFormula(0, number));
        Edges.refused("both", Edges.ELEMENT, Edges::busy, x -> x.anyFormula(-1, -1));
        Edges.due("the first and the last", Edges.busy().anyFormula(0, last), BUSY_FORMULAS);
        Edges.due("the last and the first", Edges.busy().anyFormula(last, 0), BUSY_FORMULAS);
        Edges.sentence(11, "Throws `IllegalStateException` if there are 60 formulas, "
                + "or the depth would be greater than 5");
        Edges.due("the 60th", formulas(59).anyFormula(0, 58), 59);
        Edges.refused("the 61st", Edges.STATE, () -> formulas(60), x -> x.anyFormula(0, 59));
        Edges.due("depth 5 by the first", deep().anyFormula(4, 0), 6);
        Edges.due("depth 5 by the second", deep().anyFormula(0, 4), 6);
        Edges.refused("depth 6 by the first", Edges.STATE, FormulaEdgesTest::deep, x -> x.anyFormula(5, 0));
        Edges.refused("depth 6 by the second", Edges.STATE, FormulaEdgesTest::deep, x -> x.anyFormula(0, 5));
        Edges.refused("depth 6 by both", Edges.STATE, FormulaEdgesTest::deep, x -> x.anyFormula(5, 5));
    }

    private static void twoFormula() {
        Edges.sentence(12, "Throws `NoSuchElementException` if there is no such formula, for any of them");
        int last = BUSY_FORMULAS - 1;
        Edges.refusedBeyond(0, last, Edges.ELEMENT, Edges::busy, (x, number) -> x.twoFormula(number, 0, 0));
        Edges.refusedBeyond(0, last, Edges.ELEMENT, Edges::busy, (x, number) -> x.twoFormula(0, number, 0));
        Edges.refusedBeyond(0, last, Edges.ELEMENT, Edges::busy, (x, number) -> x.twoFormula(0, 0, number));
        Edges.refused("all", Edges.ELEMENT, Edges::busy, x -> x.twoFormula(7, 7, 7));
        Edges.due("the last as the first", Edges.busy().twoFormula(last, 0, 0), BUSY_FORMULAS);
        Edges.due("the last as the second", Edges.busy().twoFormula(0, last, 0), BUSY_FORMULAS);
        Edges.due("the last as the third", Edges.busy().twoFormula(0, 0, last), BUSY_FORMULAS);
        Edges.sentence(12, "Throws `IllegalStateException` if there are 60 formulas, "
                + "or the depth would be greater than 5");
        Edges.due("the 60th", formulas(59).twoFormula(0, 1, 58), 59);
        Edges.refused("the 61st", Edges.STATE, () -> formulas(60), x -> x.twoFormula(0, 1, 59));
        Edges.due("depth 5 by the first", deep().twoFormula(4, 0, 0), 6);
        Edges.due("depth 5 by the second", deep().twoFormula(0, 4, 0), 6);
        Edges.due("depth 5 by the third", deep().twoFormula(0, 0, 4), 6);
        Edges.refused("depth 6 by the first", Edges.STATE, FormulaEdgesTest::deep, x -> x.twoFormula(5, 0, 0));
        Edges.refused("depth 6 by the second", Edges.STATE, FormulaEdgesTest::deep, x -> x.twoFormula(0, 5, 0));
        Edges.refused("depth 6 by the third", Edges.STATE, FormulaEdgesTest::deep, x -> x.twoFormula(0, 0, 5));
    }

    private static void noneFormula() {
        Edges.sentence(13, "Throws `NoSuchElementException` if there is no such formula");
        Edges.refusedBeyond(0, BUSY_FORMULAS - 1, Edges.ELEMENT, Edges::busy, Prereqs::noneFormula);
        Edges.due("the first", Edges.busy().noneFormula(0), BUSY_FORMULAS);
        Edges.due("the last", Edges.busy().noneFormula(BUSY_FORMULAS - 1), BUSY_FORMULAS);
        Edges.sentence(13, "Throws `IllegalStateException` if there are 60 formulas, "
                + "or the depth would be greater than 5");
        Edges.due("the 60th", formulas(59).noneFormula(58), 59);
        Edges.refused("the 61st", Edges.STATE, () -> formulas(60), x -> x.noneFormula(59));
        Edges.due("depth 5", deep().noneFormula(4), 6);
        Edges.refused("depth 6", Edges.STATE, FormulaEdgesTest::deep, x -> x.noneFormula(5));
    }

    private static void formulasInOrder() {
        Edges.sentence(0, "If several exceptions apply, the one that is listed first is thrown");
        Supplier<Prereqs> full = () -> formulas(60);
        Edges.refused("7: the course before the mark", Edges.INDEX, Edges::busy, x -> x.markFormula(5, 101));
        Edges.refused("7: the course before 60", Edges.INDEX, full, x -> x.markFormula(2, 50));
        Edges.refused("7: the mark 101 before 60", Edges.ARGUMENT, full, x -> x.markFormula(0, 101));
        Edges.refused("7: the mark -1 before 60", Edges.ARGUMENT, full, x -> x.markFormula(0, -1));
        Edges.refused("8: the course before 60", Edges.INDEX, full, x -> x.togetherFormula(2));
        Edges.refused("8: the course -1 before 60", Edges.INDEX, full, x -> x.togetherFormula(-1));
        Edges.refused("9: the credits 121 before 60", Edges.ARGUMENT, full, x -> x.creditsFormula(121));
        Edges.refused("9: the credits -1 before 60", Edges.ARGUMENT, full, x -> x.creditsFormula(-1));
        Edges.refused("10: the first before 60", Edges.ELEMENT, full, x -> x.allFormula(60, 0));
        Edges.refused("10: the second before 60", Edges.ELEMENT, full, x -> x.allFormula(0, 60));
        Edges.refused("11: the first before 60", Edges.ELEMENT, full, x -> x.anyFormula(-1, 0));
        Edges.refused("11: the second before 60", Edges.ELEMENT, full, x -> x.anyFormula(0, 60));
        Edges.refused("12: the first before 60", Edges.ELEMENT, full, x -> x.twoFormula(60, 0, 0));
        Edges.refused("12: the second before 60", Edges.ELEMENT, full, x -> x.twoFormula(0, 60, 0));
        Edges.refused("12: the third before 60", Edges.ELEMENT, full, x -> x.twoFormula(0, 0, 60));
        Edges.refused("13: the part before 60", Edges.ELEMENT, full, x -> x.noneFormula(60));
        Supplier<Prereqs> deep = FormulaEdgesTest::deep;
        Edges.refused("10: the part before the depth", Edges.ELEMENT, deep, x -> x.allFormula(5, 6));
        Edges.refused("10: also the first", Edges.ELEMENT, deep, x -> x.allFormula(6, 5));
        Edges.refused("11: the part before the depth", Edges.ELEMENT, deep, x -> x.anyFormula(5, 6));
        Edges.refused("11: also the first", Edges.ELEMENT, deep, x -> x.anyFormula(6, 5));
        Edges.refused("12: the part before the depth", Edges.ELEMENT, deep, x -> x.twoFormula(5, 5, 6));
        Edges.refused("12: also the second", Edges.ELEMENT, deep, x -> x.twoFormula(5, -1, 5));
        Edges.refused("12: also the first", Edges.ELEMENT, deep, x -> x.twoFormula(6, 5, 5));
    }

    private static void sixtyOfAllKinds() {
        Edges.sentence(0, "At most 60 formulas have the numbers 0, 1, 2 and so on; a formula never changes");
        Prereqs x = Edges.office(1, 3, 5);
        for (int formula = 0; formula < 60; formula += 6) {
            Edges.due("credits", x.creditsFormula(0), formula);
            Edges.due("mark", x.markFormula(0, 0), formula + 1);
            Edges.due("together", x.togetherFormula(0), formula + 2);
            Edges.due("all", x.allFormula(formula, formula), formula + 3);
            Edges.due("any", x.anyFormula(formula, formula + 1), formula + 4);
            Edges.due("two or none", formula % 12 == 0 ? x.noneFormula(formula) : x.twoFormula(0, 1, 3), formula + 5);
        }
        for (int formula = 0; formula < 60; formula++) {
            boolean isDue = formula % 6 == 0 || formula % 6 == 3 || formula % 6 == 4 || formula % 12 == 11;
            Edges.due("formula " + formula, x.holds(0, formula), isDue);
        }
        x.require(0, 59);
        Edges.due("the last as a requisite", x.outcome(0, 0), 'e');
        x.require(0, 55);
        Edges.due("a late one that does not hold", x.whyNot(0, 0), 55);
    }

    private static void depthsOfAllKinds() {
        Edges.sentence(0, "No depth is greater than 5");
        for (int kind = 0; kind < 3; kind++) {
            for (int outer = 0; outer < 4; outer++) {
                Prereqs x = Edges.office(1, 3, 5);
                int last = kind == 0 ? x.markFormula(0, 0) : kind == 1 ? x.togetherFormula(0) : x.creditsFormula(0);
                for (int depth = 1; depth <= 5; depth++) {
                    last = over(x, outer, last);
                    Edges.due("depth " + depth, last, depth);
                }
                Edges.due("depth 6", Picture.answerOf(x, y -> over(y, 3, 5)), "IllegalStateException");
            }
        }
        Edges.sentence(0, "the depth of any other formula is 1 more than the greatest depth of its parts");
        Prereqs x = deep();
        Edges.due("the greatest, not the first", x.twoFormula(0, 4, 1), 6);
        Edges.due("it is 5", Picture.answerOf(x, y -> y.noneFormula(6)), "IllegalStateException");
        Edges.due("the greatest, not the sum", x.twoFormula(3, 3, 3), 7);
        Edges.due("it is 4", x.noneFormula(7), 8);
    }

    private static int over(Prereqs x, int outer, int part) {
        switch (outer) {
            case 0: return x.allFormula(part, 0);
            case 1: return x.anyFormula(0, part);
            case 2: return x.twoFormula(0, 0, part);
            default: return x.noneFormula(part);
        }
    }

    // Promise 14 and the kinds of formulas

    private static void holds() {
        Edges.sentence(14, "Throws `IndexOutOfBoundsException` if there is no such student");
        Edges.refusedBeyond(0, 3, Edges.INDEX, Edges::busy, (x, number) -> x.holds(number, 0));
        Edges.sentence(14, "Throws `NoSuchElementException` if there is no such formula");
        Edges.refusedBeyond(0, BUSY_FORMULAS - 1, Edges.ELEMENT, Edges::busy, (x, number) -> x.holds(0, number));
        Edges.due("the first", Edges.busy().holds(0, 0), true);
        Edges.due("the last", Edges.busy().holds(3, BUSY_FORMULAS - 1), true);
        Edges.due("the last of 60", formulas(60).holds(1, 59), true);
        Edges.refused("60 of 60", Edges.ELEMENT, () -> formulas(60), x -> x.holds(1, 60));
        Edges.sentence(0, "If several exceptions apply, the one that is listed first is thrown");
        Edges.refused("14: the student before the formula", Edges.INDEX, Edges::busy, x -> x.holds(4, 7));
        Edges.refused("14: also below", Edges.INDEX, Edges::busy, x -> x.holds(-1, -1));
    }

    private static boolean holdsAfter(int asked, int... marks) {
        Prereqs x = Edges.study(formulas(0), 0, 0, marks);
        return x.holds(0, x.markFormula(0, asked));
    }

    private static void markFormulaHolds() {
        Edges.sentence(0, "It holds if the student has a best mark in the course that is this mark or more");
        Edges.due("60 of 60", holdsAfter(60, 60), true);
        Edges.due("59 of 60", holdsAfter(60, 59), false);
        Edges.due("61 of 60", holdsAfter(60, 61), true);
        Edges.due("100 of 100", holdsAfter(100, 100), true);
        Edges.due("99 of 100", holdsAfter(100, 99), false);
        Edges.due("0 of 0", holdsAfter(0, 0), true);
        Edges.due("no best mark is not 0", holdsAfter(0), false);
        Edges.due("a withdrawal is not 0", holdsAfter(0, -1), false);
        Edges.due("three withdrawals are not 0", holdsAfter(0, -1, -1, -1), false);
        Edges.due("the best, not the last", holdsAfter(70, 70, 20, -1), true);
        for (int asked : new int[] {50, 51}) {
            Prereqs x = formulas(0);
            x.moveIn(0, 0);
            Edges.due("credit moved in, of " + asked, x.holds(0, x.markFormula(0, asked)), asked == 50);
        }
    }

    private static void togetherFormulaHolds() {
        Edges.sentence(0, "It holds if the student is enrolled in the course or has passed it");
        for (int mark : new int[] {49, 50}) {
            Prereqs x = Edges.study(formulas(0), 0, 0, mark);
            Edges.due("after " + mark, x.holds(0, x.togetherFormula(0)), mark == 50);
        }
        Prereqs x = Edges.office(2, 3, 1);
        x.togetherFormula(0);
        Edges.due("neither", x.holds(0, 0), false);
        x.enroll(0, 0);
        x.enroll(1, 0);
        Edges.due("enrolled", x.holds(0, 0), true);
        Edges.due("on the waiting list", x.holds(1, 0), false);
        x.drop(0, 0);
        Edges.due("dropped", x.holds(0, 0), false);
        Edges.due("let in by that", x.holds(1, 0), true);
        x.pass(30);
        Edges.due("on the last day", x.holds(1, 0), true);
        x.mark(1, 0, 100);
        x.endTerm();
        Edges.due("passed", x.holds(1, 0), true);
    }

    private static void creditsFormulaHolds() {
        Edges.sentence(0, "It holds if the earned credits of the student are this number or more");
        Prereqs x = Edges.office(1, 6, 1, 6, 1, 1, 1);
        for (int credits : new int[] {0, 1, 5, 6, 7, 11, 12, 13}) {
            x.creditsFormula(credits);
        }
        dueHolding(x, 1);
        x.moveIn(0, 0);
        dueHolding(x, 4);
        x.moveIn(0, 1);
        dueHolding(x, 7);
        x.enroll(0, 2);
        Edges.endTerm(x);
        dueHolding(x, 7);
        Edges.study(x, 0, 2, 49, 50);
        dueHolding(x, 8);
    }

    /** Of 8 formulas only the first ones hold. */
    private static void dueHolding(Prereqs x, int count) {
        for (int formula = 0; formula < 8; formula++) {
            Edges.due("formula " + formula, x.holds(0, formula), formula < count);
        }
    }

    private static void creditsOfAll() {
        Edges.sentence(0, "It holds if the earned credits of the student are this number or more");
        Prereqs x = Edges.office(1);
        for (int course = 0; course < 20; course++) {
            x.addCourse(6, 1);
        }
        x.creditsFormula(120);
        x.creditsFormula(119);
        for (int from = 0; from < 20; from += 3) {
            for (int course = from; course < Math.min(20, from + 3); course++) {
                x.enroll(0, course);
            }
            Edges.onDay(21, x);
            for (int course = from; course < Math.min(20, from + 3); course++) {
                x.mark(0, course, course == 19 ? 49 : 50);
            }
            x.endTerm();
        }
        Edges.due("114 of 120", x.holds(0, 0), false);
        Edges.due("114 of 119", x.holds(0, 1), false);
        Edges.study(x, 0, 19, 50);
        Edges.due("120 of 120", x.holds(0, 0), true);
        Edges.due("120 of 119", x.holds(0, 1), true);
    }

    private static void partsHold() {
        Prereqs x = formulas(0);
        int[] of = {x.creditsFormula(1), x.creditsFormula(0)};
        for (int bits = 0; bits < 8; bits++) {
            int first = of[bits & 1];
            int second = of[bits >> 1 & 1];
            int third = of[bits >> 2];
            int count = Integer.bitCount(bits);
            Edges.sentence(0, "It holds if both hold");
            boolean both = first == 1 && second == 1;
            Edges.due(first + " " + second, x.holds(0, x.allFormula(first, second)), both);
            Edges.sentence(0, "It holds if at least one of them holds");
            boolean one = first == 1 || second == 1;
            Edges.due(first + " " + second, x.holds(0, x.anyFormula(first, second)), one);
            Edges.sentence(0, "It holds if at least two of them hold");
            Edges.due(first + " " + second + " " + third, x.holds(0, x.twoFormula(first, second, third)), count >= 2);
            Edges.sentence(0, "It holds if the part does not hold");
            Edges.due("none of " + first, x.holds(0, x.noneFormula(first)), first == 0);
        }
        Edges.sentence(0, "A two formula has three parts");
        Edges.due("without the first", x.holds(0, x.twoFormula(0, 1, 1)), true);
        Edges.due("without the second", x.holds(0, x.twoFormula(1, 0, 1)), true);
        Edges.due("without the third", x.holds(0, x.twoFormula(1, 1, 0)), true);
        Edges.sentence(0, "one formula can be several parts of another one");
        Edges.due("all", x.holds(0, x.allFormula(1, 1)), true);
        Edges.due("any of what does not hold", x.holds(0, x.anyFormula(0, 0)), false);
        Edges.due("two parts by one", x.holds(0, x.twoFormula(1, 0, 1)), true);
        Edges.due("three parts by one", x.holds(0, x.twoFormula(1, 1, 1)), true);
        Edges.due("two that do not hold", x.holds(0, x.twoFormula(0, 1, 0)), false);
    }

    // Promises 15 and 16

    private static void require() {
        Edges.sentence(15, "Throws `IndexOutOfBoundsException` if there is no such course");
        Edges.refusedBeyond(0, 4, Edges.INDEX, Edges::busy, (x, number) -> x.require(number, 0));
        Edges.sentence(15, "Throws `NoSuchElementException` if there is no such formula");
        Edges.refusedBeyond(0, BUSY_FORMULAS - 1, Edges.ELEMENT, Edges::busy, (x, number) -> x.require(2, number));
        Edges.refusedBeyond(0, BUSY_FORMULAS - 1, Edges.ELEMENT, Edges::busy, (x, number) -> x.require(1, number));
        Edges.due("the first of a course", Edges.busy().require(4, BUSY_FORMULAS - 1), false);
        Edges.sentence(15, "Returns whether the course had a formula as its requisite before the call");
        Edges.due("none", Edges.busy().require(2, 0), false);
        Edges.due("in place of another", Edges.busy().require(1, 0), true);
        Edges.due("the same again", Edges.busy().require(1, 4), true);
        Edges.sentence(0, "If several exceptions apply, the one that is listed first is thrown");
        Edges.refused("15: the course before the formula", Edges.INDEX, Edges::busy, x -> x.require(5, 7));
        Edges.refused("15: also below", Edges.INDEX, Edges::busy, x -> x.require(-1, -1));
        Edges.sentence(15, "Students who are enrolled in the course stay enrolled");
        Prereqs x = Edges.office(1, 3, 1);
        x.enroll(0, 0);
        x.require(0, x.creditsFormula(120));
        Edges.due("at once", x.isEnrolled(0, 0), true);
        x.pass(30);
        Edges.due("to the end", x.endTerm(), 1);
    }

    private static void lift() {
        Edges.sentence(16, "Throws `IndexOutOfBoundsException` if there is no such course");
        Edges.refusedBeyond(0, 4, Edges.INDEX, Edges::busy, Prereqs::lift);
        Prereqs x = Edges.busy();
        Edges.sentence(16, "Returns whether the course had a formula as its requisite before the call");
        Edges.due("one", x.lift(0), true);
        Edges.due("none any more", x.lift(0), false);
        Edges.sentence(16, "Takes the formula from a course; its requisite holds for everybody then");
        Edges.due("it is open", x.outcome(3, 0), 'e');
        Edges.sentence(0, "The requisite of a course without a formula holds for everybody");
        for (int student = 0; student < 4; student++) {
            Edges.due("student " + student, x.outcome(student, 0), 'e');
        }
        Edges.due("the other course keeps its own", x.outcome(3, 1), 'w');
        Edges.due("none", x.lift(0), false);
        Edges.changesNothing("none to lift", Edges::busy, y -> y.lift(4));
    }

    // Promises 39 and 40

    private static void whyNot() {
        Edges.sentence(39, "Throws `IndexOutOfBoundsException` if there is no such student or course");
        Edges.refusedBeyond(0, 3, Edges.INDEX, Edges::busy, (x, number) -> x.whyNot(number, 0));
        Edges.refusedBeyond(0, 4, Edges.INDEX, Edges::busy, (x, number) -> x.whyNot(0, number));
        Edges.sentence(39, "Throws `NoSuchElementException` if the course has no formula as its requisite");
        Edges.refused("never one", Edges.ELEMENT, Edges::busy, x -> x.whyNot(0, 2));
        Edges.refused("lifted", Edges.ELEMENT, FormulaEdgesTest::lifted, x -> x.whyNot(3, 0));
        Edges.sentence(39, "Throws `IllegalStateException` if the requisite holds for the student");
        Edges.refused("it holds", Edges.STATE, Edges::busy, x -> x.whyNot(0, 1));
        Edges.due("it does not hold for another", Edges.busy().whyNot(2, 1), 0);
        Edges.sentence(0, "If several exceptions apply, the one that is listed first is thrown");
        Edges.refused("39: the student before no formula", Edges.INDEX, Edges::busy, x -> x.whyNot(4, 2));
        Edges.refused("39: both before all", Edges.INDEX, Edges::busy, x -> x.whyNot(-1, 5));
        Edges.refused("39: no formula, which holds for all", Edges.ELEMENT, Edges::busy, x -> x.whyNot(0, 4));
    }

    private static void lastOfTheReason() {
        Edges.sentence(39, "Returns the last formula of the reason why the requisite of a course does not hold for a "
                + "student");
        Prereqs x = formulas(1);
        int alone = x.creditsFormula(1);
        x.require(0, alone);
        Edges.due("of one", x.whyNot(0, 0), alone);
        x.require(0, x.allFormula(0, alone));
        Edges.due("of two", x.whyNot(0, 0), alone);
        Prereqs most = formulas(59);
        most.require(1, most.noneFormula(0));
        Edges.due("the last of 60", most.whyNot(1, 1), 59);
    }

    private static Prereqs lifted() {
        Prereqs x = Edges.busy();
        x.lift(0);
        return x;
    }

    private static void whyLong() {
        Edges.sentence(40, "Throws `IndexOutOfBoundsException` if there is no such student or course");
        Edges.refusedBeyond(0, 3, Edges.INDEX, Edges::busy, (x, number) -> x.whyLong(number, 0));
        Edges.refusedBeyond(0, 4, Edges.INDEX, Edges::busy, (x, number) -> x.whyLong(0, number));
        Edges.sentence(40, "Throws `NoSuchElementException` if the course has no formula as its requisite");
        Edges.refused("never one", Edges.ELEMENT, Edges::busy, x -> x.whyLong(0, 2));
        Edges.refused("lifted", Edges.ELEMENT, FormulaEdgesTest::lifted, x -> x.whyLong(3, 0));
        Edges.sentence(40, "Throws `IllegalStateException` if the requisite holds for the student");
        Edges.refused("it holds", Edges.STATE, Edges::busy, x -> x.whyLong(0, 1));
        Edges.due("it does not hold for another", Edges.busy().whyLong(2, 1), 2);
        Edges.sentence(0, "If several exceptions apply, the one that is listed first is thrown");
        Edges.refused("40: the student before no formula", Edges.INDEX, Edges::busy, x -> x.whyLong(4, 2));
        Edges.refused("40: both before all", Edges.INDEX, Edges::busy, x -> x.whyLong(-1, 5));
        Edges.refused("40: no formula, which holds for all", Edges.ELEMENT, Edges::busy, x -> x.whyLong(0, 4));
    }

    private static void dueReason(String what, Prereqs x, int formula, int last, int length) {
        x.require(0, formula);
        Edges.due(what + ", the last", x.whyNot(0, 0), last);
        Edges.due(what + ", the length", x.whyLong(0, 0), length);
    }

    private static void shortReasons() {
        Edges.sentence(0, "a formula of any other kind ends the row");
        Prereqs x = formulas(1);
        int mark = x.markFormula(1, 0);
        int together = x.togetherFormula(1);
        int credits = x.creditsFormula(1);
        int none = x.noneFormula(0);
        dueReason("a mark formula", x, mark, mark, 1);
        dueReason("a together formula", x, together, together, 1);
        dueReason("a credits formula", x, credits, credits, 1);
        dueReason("a none formula, whose part holds", x, none, none, 1);
        int noneOfAll = x.noneFormula(x.allFormula(0, 0));
        dueReason("a none formula of an all formula", x, noneOfAll, noneOfAll, 1);
    }

    private static void reasonsByTheFirstPart() {
        Edges.sentence(0, "Behind an all, any or two formula in the row stands the first one of its parts "
                + "that does not hold for the student");
        Prereqs x = formulas(1);
        int a = x.creditsFormula(1);
        int b = x.creditsFormula(2);
        int c = x.creditsFormula(3);
        dueReason("all: both fail", x, x.allFormula(a, b), a, 2);
        dueReason("all: the first alone", x, x.allFormula(a, 0), a, 2);
        dueReason("all: the second alone", x, x.allFormula(0, b), b, 2);
        dueReason("all: one twice", x, x.allFormula(b, b), b, 2);
        dueReason("any: both fail", x, x.anyFormula(b, a), b, 2);
        dueReason("two: all fail", x, x.twoFormula(c, b, a), c, 2);
        dueReason("two: the first holds", x, x.twoFormula(0, b, a), b, 2);
        dueReason("two: the second holds", x, x.twoFormula(b, 0, a), b, 2);
        dueReason("two: the third holds", x, x.twoFormula(c, a, 0), c, 2);
    }

    private static void reasonsOfAllLengths() {
        Edges.sentence(40, "Returns the number of formulas in the row");
        Prereqs x = formulas(1);
        int least = x.markFormula(1, 100);
        int last = least;
        for (int length = 1; length <= 6; length++) {
            dueReason("length " + length, x, last, least, length);
            if (length < 6) {
                last = length % 3 == 0 ? x.twoFormula(0, last, last)
                        : length % 3 == 1 ? x.allFormula(0, last) : x.anyFormula(last, last);
            }
        }
    }

    // Promise 41

    private static void termsTo() {
        Edges.sentence(41, "Throws `IndexOutOfBoundsException` if there is no such course");
        Edges.refusedBeyond(0, 4, Edges.INDEX, Edges::busy, Prereqs::termsTo);
        Edges.sentence(41, "Throws `NoSuchElementException` if the course is never passed in this way");
        Supplier<Prereqs> never = FormulaEdgesTest::neverPassed;
        Edges.refused("120 credits, which there are not", Edges.ELEMENT, never, x -> x.termsTo(0));
        Edges.refused("itself", Edges.ELEMENT, never, x -> x.termsTo(1));
        Edges.refused("not after what comes at once", Edges.ELEMENT, never, x -> x.termsTo(2));
        Edges.due("the one that comes at once", never.get().termsTo(3), 1);
        Edges.sentence(41, "Returns the number of terms, 1 or more");
        Edges.due("without a requisite", Edges.busy().termsTo(4), 1);
        Edges.due("by what holds for somebody new", formulaOnCourse(0).termsTo(0), 1);
        Edges.due("by what it earns in the first term", formulaOnCourse(1).termsTo(0), 2);
        Edges.due("by all that it earns in the first term", formulaOnCourse(6).termsTo(0), 2);
        Edges.due("by one credit more", Picture.answerOf(formulaOnCourse(7), x -> x.termsTo(0)),
                "NoSuchElementException");
    }

    /** Course 0 asks for credits, of which the other courses have 6. */
    private static Prereqs formulaOnCourse(int credits) {
        Prereqs x = Edges.office(0, 6, 1, 2, 1, 4, 1);
        x.require(0, x.creditsFormula(credits));
        return x;
    }

    private static Prereqs neverPassed() {
        Prereqs x = Edges.office(1, 6, 1, 6, 1, 6, 1, 1, 1);
        x.require(0, x.creditsFormula(120));
        x.require(1, x.togetherFormula(1));
        x.require(2, x.allFormula(x.markFormula(3, 100), x.noneFormula(x.togetherFormula(3))));
        return x;
    }

    private static void termsOfAChain() {
        Edges.sentence(41, "In each of them it gets an attempt that is the mark 100");
        Prereqs x = new Prereqs();
        for (int course = 0; course < 20; course++) {
            x.addCourse(6, 1);
        }
        for (int course = 0; course < 19; course++) {
            x.require(course, x.markFormula(course + 1, 100));
        }
        for (int course = 0; course < 20; course++) {
            Edges.due("course " + course, x.termsTo(course), 20 - course);
        }
        Edges.sentence(41, "loads and seats do not matter");
        for (int course = 0; course < 19; course++) {
            x.lift(course);
        }
        for (int course = 0; course < 20; course++) {
            Edges.due("course " + course + " of 6 credits at once", x.termsTo(course), 1);
        }
        x.require(0, x.creditsFormula(114));
        Edges.due("all the others give 114 credits", x.termsTo(0), 2);
        x.require(0, x.creditsFormula(115));
        Edges.due("and no more", Picture.answerOf(x, y -> y.termsTo(0)), "NoSuchElementException");
    }

    public static void main(String[] arguments) {
        markFormula();
        togetherFormula();
        creditsFormula();
        allFormula();
        anyFormula();
        twoFormula();
        noneFormula();
        formulasInOrder();
        sixtyOfAllKinds();
        depthsOfAllKinds();
        holds();
        markFormulaHolds();
        togetherFormulaHolds();
        creditsFormulaHolds();
        creditsOfAll();
        partsHold();
        require();
        lift();
        whyNot();
        lastOfTheReason();
        whyLong();
        shortReasons();
        reasonsByTheFirstPart();
        reasonsOfAllLengths();
        termsTo();
        termsOfAChain();
        Edges.end();
    }
}
