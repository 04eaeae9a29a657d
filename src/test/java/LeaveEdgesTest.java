import java.util.function.Supplier;

/** The edges of promise 22, sentence by sentence: drops, what they end, and lists that are left. */
public final class LeaveEdgesTest {
    private LeaveEdgesTest() {
    }

    /** Student 0 has the only seat of course 0, and 1 to 6 wait for it; 7 is in course 1, and 8 in nothing. */
    private static Prereqs waiting() {
        Prereqs x = Edges.office(9, 2, 1, 3, 2);
        for (int student = 0; student <= 6; student++) {
            x.enroll(student, 0);
        }
        x.enroll(7, 1);
        return x;
    }

    private static Prereqs waitingOnDay(int day) {
        return Edges.onDay(day, waiting());
    }

    /** Student 0 is in the courses 0 to 4; 1 wants 0, 2 wants 1, 3 wants 2, and 4 wants nothing. */
    private static Prereqs chain() {
        Prereqs x = Edges.office(3, 2, 1, 3, 1, 4, 1, 5, 1, 1, 1);
        for (int course = 0; course < 5; course++) {
            x.enroll(0, course);
        }
        for (int course = 1; course < 4; course++) {
            x.require(course, x.togetherFormula(course - 1));
        }
        return x;
    }

    private static void noSuch() {
        Edges.sentence(22, "Throws `IndexOutOfBoundsException` if there is no such student or course");
        Edges.refusedBeyond(0, 3, Edges.INDEX, Edges::busy, (x, number) -> x.drop(number, 1));
        Edges.refusedBeyond(0, 4, Edges.INDEX, Edges::busy, (x, number) -> x.drop(0, number));
        Edges.due("the first student", Edges.busy().drop(0, 1), 'd');
        Edges.due("the last student", Edges.busy().drop(3, 2), 'd');
    }

    private static void neither() {
        Edges.sentence(22, "Throws `NoSuchElementException` if the student is neither enrolled in the course "
                + "nor on its waiting list");
        Edges.refused("in nothing", Edges.ELEMENT, LeaveEdgesTest::waiting, x -> x.drop(8, 0));
        Edges.refused("in another course", Edges.ELEMENT, LeaveEdgesTest::waiting, x -> x.drop(7, 0));
        Edges.refused("waiting for another", Edges.ELEMENT, LeaveEdgesTest::waiting, x -> x.drop(1, 1));
        Edges.refused("dropped", Edges.ELEMENT, () -> dropped(7, 1), x -> x.drop(7, 1));
        Edges.refused("has left the list", Edges.ELEMENT, () -> dropped(6, 0), x -> x.drop(6, 0));
        Edges.refused("the list is empty on day 6", Edges.ELEMENT, () -> waitingOnDay(6), x -> x.drop(1, 0));
        Edges.refused("the term has ended", Edges.ELEMENT, LeaveEdgesTest::nextTerm, x -> x.drop(0, 0));
        Edges.refused("it has ended by another drop", Edges.ELEMENT, LeaveEdgesTest::ended, x -> x.drop(0, 3));
    }

    private static Prereqs dropped(int student, int course) {
        Prereqs x = waiting();
        x.drop(student, course);
        return x;
    }

    private static Prereqs nextTerm() {
        Prereqs x = waiting();
        Edges.endTerm(x);
        return x;
    }

    private static Prereqs ended() {
        Prereqs x = chain();
        x.drop(0, 2);
        return x;
    }

    private static void days() {
        Edges.sentence(22, "Throws `IllegalStateException` if the day is greater than 20");
        Edges.due("day 20", waitingOnDay(20).drop(0, 0), 'w');
        for (int day = 21; day <= 30; day++) {
            int late = day;
            Edges.refused("day " + day, Edges.STATE, () -> waitingOnDay(late), x -> x.drop(0, 0));
        }
        Edges.sentence(0, "If several exceptions apply, the one that is listed first is thrown");
        Supplier<Prereqs> late = () -> waitingOnDay(21);
        Edges.refused("22: the student before the day", Edges.INDEX, late, x -> x.drop(9, 0));
        Edges.refused("22: the course before the day", Edges.INDEX, late, x -> x.drop(0, 2));
        Edges.refused("22: not enrolled before the day", Edges.ELEMENT, late, x -> x.drop(8, 0));
        Edges.refused("22: its list is empty, before the day", Edges.ELEMENT, late, x -> x.drop(1, 0));
    }

    private static void letters() {
        Edges.sentence(22, "Returns 'l' if the student has left the waiting list, 'd' if it has dropped the course "
                + "on one of the days 0 to 8, 'w' if it has dropped it on one of the days 9 to 20");
        for (int day = 0; day <= 20; day++) {
            Edges.due("day " + day, waitingOnDay(day).drop(0, 0), day <= 8 ? 'd' : 'w');
        }
        for (int day = 0; day <= 5; day++) {
            Edges.due("waiting on day " + day, waitingOnDay(day).drop(1, 0), 'l');
        }
    }

    private static void withdrawals() {
        Edges.sentence(0, "on the days 9 to 20, it also gets an attempt in it that is a withdrawal");
        for (int day = 0; day <= 20; day++) {
            Prereqs x = waitingOnDay(day);
            x.drop(0, 0);
            int attempts = day >= 9 ? 1 : 0;
            Edges.due("day " + day, x.attempts(0, 0), attempts);
            Edges.due("day " + day + ", the transcript", x.transcriptLength(0), 4 * attempts);
            Edges.due("day " + day + ", not enrolled any more", x.isEnrolled(0, 0), false);
        }
        Prereqs x = Edges.study(Edges.office(1, 6, 1), 0, 0, 80, -1);
        x.enroll(0, 0);
        x.pass(9);
        Edges.due("the third attempt", x.drop(0, 0), 'w');
        Edges.due("there are three", x.attempts(0, 0), 3);
        Edges.due("two of them are withdrawals", x.transcriptLength(0), "0=80,W,W;".length());
        Edges.due("no mark is lost", x.bestMark(0, 0), 80);
        Prereqs leaver = waiting();
        leaver.drop(1, 0);
        Edges.due("leaving the list is no attempt", leaver.attempts(1, 0), 0);
    }

    private static void leaveTheList() {
        Edges.sentence(22, "Lets a student drop a course, or leave its waiting list");
        for (int leaving = 1; leaving <= 6; leaving++) {
            Prereqs x = waiting();
            Edges.due("the one at place " + (leaving - 1), x.drop(leaving, 0), 'l');
            Edges.due("5 are left", x.waiting(0), 5);
            for (int student = 1; student <= 6; student++) {
                if (student != leaving) {
                    Edges.due("the place of another", x.placeOf(student, 0), student < leaving ? student - 1 : student - 2);
                }
            }
            Edges.due("a place for one more", x.enroll(8, 0), 'w');
        }
        Prereqs x = waiting();
        for (int student = 1; student <= 6; student++) {
            x.drop(student, 0);
        }
        Edges.due("the list is empty", x.waiting(0), 0);
        x.drop(0, 0);
        Edges.due("nobody gets the seat", x.enrolled(0), 0);
    }

    // What ends with a drop

    private static void others() {
        Edges.sentence(0, "Then, as long as the student is enrolled in a course whose requisite does not hold "
                + "for the student, the lowest-numbered such course ends for the student in the same way");
        for (int first = 0; first < 5; first++) {
            Prereqs x = chain();
            Edges.due("drops " + first, x.drop(0, first), 'd');
            for (int course = 0; course < 5; course++) {
                boolean ends = course == first || first < 4 && course > first && course < 4;
                Edges.due("then in " + course, x.isEnrolled(0, course), !ends);
            }
        }
        for (int day : new int[] {8, 9, 20}) {
            Prereqs x = Edges.onDay(day, chain());
            x.drop(0, 1);
            for (int course = 0; course < 5; course++) {
                int due = day >= 9 && course >= 1 && course <= 3 ? 1 : 0;
                Edges.due("attempts in " + course + " on day " + day, x.attempts(0, course), due);
            }
            Edges.due("what is left on day " + day, x.load(0), 3);
        }
    }

    private static void lowestFirst() {
        Edges.sentence(0, "the lowest-numbered such course ends for the student in the same way");
        Prereqs x = Edges.office(1, 1, 1, 1, 1, 1, 1, 1, 1);
        for (int course = 0; course < 4; course++) {
            x.enroll(0, course);
        }
        int three = x.togetherFormula(3);
        // When 3 is dropped, 0, 1 and 2 all fail; 2 holds again when 1 has ended, and 1 does not when 0 has.
        x.require(0, three);
        x.require(1, three);
        x.require(2, x.anyFormula(three, x.noneFormula(x.togetherFormula(1))));
        x.drop(0, 3);
        Edges.due("0 ends", x.isEnrolled(0, 0), false);
        Edges.due("1 ends", x.isEnrolled(0, 1), false);
        Edges.due("2 goes on", x.isEnrolled(0, 2), true);
    }

    private static void endsOne(String what, boolean heldBefore) {
        Prereqs x = Edges.office(1, 1, 1, 1, 1);
        x.enroll(0, 0);
        x.enroll(0, 1);
        x.require(0, heldBefore ? x.togetherFormula(1) : x.creditsFormula(1));
        Edges.due(what + ", before the drop", x.holds(0, 0), heldBefore);
        Edges.due(what + ", enrolled", x.isEnrolled(0, 0), true);
        x.drop(0, 1);
        Edges.due(what + ", after the drop", x.isEnrolled(0, 0), false);
    }

    private static void whatHeldBefore() {
        Edges.sentence(0, "it does not matter whether that requisite held before the drop");
        endsOne("it held", true);
        endsOne("it did not hold", false);
        Edges.sentence(22, "Only the drop of a course in which the student is enrolled ends other courses");
        Prereqs x = Edges.office(2, 1, 2, 1, 1);
        x.enroll(1, 0);
        x.enroll(1, 1);
        x.enroll(0, 0);
        x.enroll(0, 1);
        x.require(0, x.creditsFormula(1));
        Edges.due("leaves the list", x.drop(0, 1), 'l');
        Edges.due("its other course goes on", x.isEnrolled(0, 0), true);
        Edges.due("drops", x.drop(1, 1), 'd');
        Edges.due("its other course ends", x.isEnrolled(1, 0), false);
        Edges.due("that of another student goes on", x.isEnrolled(0, 0), true);
    }

    private static void passedCoursesCount() {
        Edges.sentence(0, "whose requisite does not hold for the student");
        Prereqs x = Edges.office(1, 1, 1, 1, 1);
        x.moveIn(0, 0);
        x.enroll(0, 0);
        x.enroll(0, 1);
        x.require(1, x.togetherFormula(0));
        x.drop(0, 0);
        Edges.due("it holds by a passed course", x.isEnrolled(0, 1), true);
        Prereqs y = Edges.office(1, 1, 1, 1, 1);
        y.enroll(0, 0);
        y.enroll(0, 1);
        y.require(1, y.noneFormula(y.togetherFormula(0)));
        Edges.due("it does not hold as yet", y.holds(0, 1), false);
        y.drop(0, 0);
        Edges.due("it holds by the drop", y.isEnrolled(0, 1), true);
    }

    private static void seatsAfterAll() {
        Edges.sentence(0, "Seats are given out only after all of that");
        Prereqs x = Edges.office(2, 6, 1, 6, 1, 6, 1, 6, 1);
        x.enroll(1, 3);
        x.enroll(0, 0);
        x.enroll(0, 1);
        x.enroll(0, 3);
        int three = x.togetherFormula(3);
        // Were the seat of 3 given out between the drop of 0 and the end of 1, course 1 would go on.
        x.require(3, x.noneFormula(x.togetherFormula(0)));
        x.drop(1, 3);
        x.require(1, three);
        Edges.due("waits for 3", x.placeOf(0, 3), 0);
        x.drop(0, 0);
        Edges.due("1 has ended", x.isEnrolled(0, 1), false);
        Edges.due("3 is given", x.isEnrolled(0, 3), true);
    }

    private static void endedSeatsAreGivenOut() {
        Edges.sentence(0, "Seats are given out only after all of that");
        Prereqs x = Edges.office(2, 1, 1, 1, 1, 1, 1);
        for (int student = 0; student < 2; student++) {
            for (int course = 0; course < 3; course++) {
                x.enroll(student, course);
            }
        }
        x.require(1, x.togetherFormula(0));
        x.require(2, x.togetherFormula(1));
        Edges.due("the other waits for all three", x.waiting(0) + x.waiting(1) + x.waiting(2), 3);
        x.drop(0, 0);
        Edges.due("all three have ended", x.load(0), 0);
        Edges.due("the other gets all three, one by the other", x.load(1), 3);
        Edges.due("nobody waits", x.waiting(0) + x.waiting(1) + x.waiting(2), 0);
    }

    public static void main(String[] arguments) {
        noSuch();
        neither();
        days();
        letters();
        withdrawals();
        leaveTheList();
        others();
        lowestFirst();
        whatHeldBefore();
        passedCoursesCount();
        seatsAfterAll();
        endedSeatsAreGivenOut();
        Edges.end();
    }
}
