import java.util.ArrayList;
import java.util.List;
import java.util.function.Supplier;

/**
 * All that an office answers, also what is seen only by calls that change it, such as the mark of the term. An
 * office is promised for 512 calls, so that the questions are put to several offices that are made alike; a
 * maker must take fewer than 170 calls.
 */
final class Picture {
    interface Question {
        Object ask(Prereqs x);
    }

    private record Named(String name, Question question) {
    }

    private static final int MOST_CALLS = 150;

    private final Supplier<Prereqs> maker;
    private final int courses;
    private final int students;
    private final int formulas;
    private final int rules;
    private final List<Named> questions = new ArrayList<>();

    Picture(Supplier<Prereqs> maker) {
        this.maker = maker;
        Prereqs x = maker.get();
        courses = numberOr(20, answerOf(x, y -> y.addCourse(1, 1)));
        students = numberOr(16, answerOf(x, y -> y.addStudent(0)));
        formulas = numberOr(60, answerOf(x, y -> y.creditsFormula(0)));
        rules = countRules(maker.get());
        askOfAll();
        for (int student = 0; student < students; student++) {
            askOfStudent(student);
        }
        for (int course = 0; course < courses; course++) {
            askOfCourse(course);
        }
    }

    private static int numberOr(int most, Object answer) {
        return answer instanceof Integer number ? number : most;
    }

    private static int countRules(Prereqs x) {
        int count = 0;
        while (count < 16 && isRule(x, count)) {
            count++;
        }
        return count;
    }

    /** That there is no such rule is told before that there is no such course. */
    private static boolean isRule(Prereqs x, int rule) {
        return !"NoSuchElementException".equals(answerOf(x, y -> y.allow(rule, -1)));
    }

    static Object answerOf(Prereqs x, Question question) {
        return Check.outcomeOf(() -> question.ask(x));
    }

    private void ask(String name, Question question) {
        questions.add(new Named(name, question));
    }

    private void askOfAll() {
        ask("day()", Prereqs::day);
        ask("term()", Prereqs::term);
        ask("allEarned()", Prereqs::allEarned);
        ask("isSound()", Prereqs::isSound);
    }

    private void askOfStudent(int student) {
        String of = "(" + student + ")";
        ask("majorOf" + of, x -> x.majorOf(student));
        ask("earnedCredits" + of, x -> x.earnedCredits(student));
        ask("average" + of, x -> x.average(student));
        ask("load" + of, x -> x.load(student));
        ask("mostMet" + of, x -> x.mostMet(student));
        ask("mostMetByTrial" + of, x -> x.mostMetByTrial(student));
        ask("mostMetIf" + of, x -> x.mostMetIf(student));
        ask("lackingRules" + of, x -> x.lackingRules(student));
        ask("lackingByTrial" + of, x -> x.lackingByTrial(student));
        ask("canGraduate" + of, x -> x.canGraduate(student));
        ask("transcriptLength" + of, x -> x.transcriptLength(student));
        int length = numberOr(0, answerOf(maker.get(), x -> x.transcriptLength(student)));
        for (int at = 0; at < length; at++) {
            int index = at;
            ask("transcriptAt(" + student + ", " + at + ")", x -> x.transcriptAt(student, index));
        }
        for (int at = 0; at < formulas; at++) {
            int formula = at;
            ask("holds(" + student + ", " + at + ")", x -> x.holds(student, formula));
        }
        for (int course = 0; course < courses; course++) {
            askOfBoth(student, course);
        }
    }

    private void askOfCourse(int course) {
        String of = "(" + course + ")";
        ask("enrolled" + of, x -> x.enrolled(course));
        ask("waiting" + of, x -> x.waiting(course));
        ask("share" + of, x -> x.share(course));
        ask("termsTo" + of, x -> x.termsTo(course));
        for (int at = 0; at < 4; at++) {
            int major = at;
            ask("freeSeats(" + course + ", " + at + ")", x -> x.freeSeats(course, major));
        }
    }

    private void askOfBoth(int student, int course) {
        String of = "(" + student + ", " + course + ")";
        ask("outcome" + of, x -> x.outcome(student, course));
        ask("bestMark" + of, x -> x.bestMark(student, course));
        ask("attempts" + of, x -> x.attempts(student, course));
        ask("isEnrolled" + of, x -> x.isEnrolled(student, course));
        ask("placeOf" + of, x -> x.placeOf(student, course));
        ask("whyNot" + of, x -> x.whyNot(student, course));
        ask("whyLong" + of, x -> x.whyLong(student, course));
        ask("ruleFor" + of, x -> x.ruleFor(student, course));
    }

    /** Whatever the call answers or throws, all other calls answer after it as before. */
    void dueTheSameAfter(String what, Question call) {
        for (int from = 0; from < questions.size(); from += MOST_CALLS) {
            List<Named> some = questions.subList(from, Math.min(questions.size(), from + MOST_CALLS));
            Prereqs x = maker.get();
            List<Object> before = answers(x, some);
            answerOf(x, call);
            dueSame(what, some, answers(x, some), before);
        }
        for (List<Named> some : List.of(degreesAndRules(), reserves(), lifts(), additions(), endOfTerm())) {
            Prereqs x = maker.get();
            Prereqs y = maker.get();
            answerOf(x, call);
            dueSame(what, some, answers(x, some), answers(y, some));
        }
    }

    private static List<Object> answers(Prereqs x, List<Named> asked) {
        List<Object> answers = new ArrayList<>();
        for (Named one : asked) {
            answers.add(answerOf(x, one.question));
        }
        return answers;
    }

    private static void dueSame(String what, List<Named> asked, List<Object> got, List<Object> want) {
        for (int i = 0; i < asked.size(); i++) {
            Check.due(what + ": then " + asked.get(i).name, got.get(i), want.get(i));
        }
    }

    // Calls that show by changing it what the office holds

    private static void add(List<Named> row, String name, Question question) {
        row.add(new Named(name, question));
    }

    private List<Named> degreesAndRules() {
        List<Named> row = new ArrayList<>();
        for (int at = 0; at < 4; at++) {
            int major = at;
            add(row, "setDegree(" + at + ", 0)", x -> x.setDegree(major, 0));
        }
        for (int rule = 0; rule < rules; rule++) {
            for (int course = 0; course < courses; course++) {
                int allowing = rule;
                int allowed = course;
                add(row, "allow(" + rule + ", " + course + ")", x -> x.allow(allowing, allowed));
            }
        }
        for (int at = 0; at < 4; at++) {
            int major = at;
            add(row, "addRule(" + at + ", 1, 0)", x -> x.addRule(major, 1, 0));
        }
        return row;
    }

    private List<Named> reserves() {
        List<Named> row = new ArrayList<>();
        for (int course = 0; course < courses; course++) {
            for (int major = 0; major < 4; major++) {
                int of = course;
                int reserving = major;
                add(row, "reserve(" + course + ", " + major + ", 0)", x -> x.reserve(of, reserving, 0));
            }
        }
        return row;
    }

    private List<Named> lifts() {
        List<Named> row = new ArrayList<>();
        for (int at = 0; at < courses; at++) {
            int course = at;
            add(row, "lift(" + at + ")", x -> x.lift(course));
        }
        return row;
    }

    private static List<Named> additions() {
        List<Named> row = new ArrayList<>();
        add(row, "addCourse(1, 1)", x -> x.addCourse(1, 1));
        add(row, "addStudent(0)", x -> x.addStudent(0));
        add(row, "creditsFormula(0)", x -> x.creditsFormula(0));
        return row;
    }

    private List<Named> endOfTerm() {
        List<Named> row = new ArrayList<>();
        add(row, "pass to day 21", x -> x.day() < 21 ? x.pass(21 - x.day()) : x.day());
        for (int student = 0; student < students; student++) {
            for (int course = 0; course < courses; course++) {
                int of = student;
                int in = course;
                add(row, "mark(" + student + ", " + course + ", 77)", x -> x.mark(of, in, 77));
            }
        }
        add(row, "endTerm()", Prereqs::endTerm);
        for (int at = 0; at < students; at++) {
            int student = at;
            add(row, "transcriptLength(" + at + ")", x -> x.transcriptLength(student));
        }
        return row;
    }
}
