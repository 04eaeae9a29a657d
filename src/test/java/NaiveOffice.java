import java.util.ArrayList;
import java.util.HashMap;
import java.util.HashSet;
import java.util.List;
import java.util.Map;
import java.util.NoSuchElementException;
import java.util.Set;
import java.util.TreeSet;
import java.util.stream.IntStream;

/**
 * The document told once more in the plainest way, with lists, recursion and all matches one by one, so
 * that the random runs have something to compare Prereqs with that shares none of its rows and tricks.
 */
public final class NaiveOffice {
    private static final Integer WITHDRAWAL = null;

    private static final class Course {
        int credits;
        int seats;
        int[] reserved = new int[4];
        Integer requisite = null;
        List<Integer> waiting = new ArrayList<>();
    }

    private static final class Student {
        int major;
        TreeSet<Integer> enrolled = new TreeSet<>();
        Map<Integer, List<Integer>> attempts = new HashMap<>();
        Set<Integer> movedIn = new HashSet<>();
        Map<Integer, Integer> termMarks = new HashMap<>();

        List<Integer> attemptsIn(int course) {
            return attempts.computeIfAbsent(course, key -> new ArrayList<>());
        }

        Integer best(int course) {
            Integer best = movedIn.contains(course) ? 50 : null;
            for (Integer mark : attemptsIn(course)) {
                if (mark != WITHDRAWAL && (best == null || mark > best)) {
                    best = mark;
                }
            }
            return best;
        }

        boolean passed(int course) {
            return best(course) != null && best(course) >= 50;
        }
    }

    private record Formula(String kind, int course, int number, List<Integer> parts, int depth) {
    }

    private record Rule(int major, int need, int mark, Set<Integer> allowed) {
    }

    private final List<Course> courses = new ArrayList<>();
    private final List<Student> students = new ArrayList<>();
    private final List<Formula> formulas = new ArrayList<>();
    private final List<Rule> rules = new ArrayList<>();
    private final int[] degree = new int[4];
    private int day = 0;
    private int term = 0;

    private Student student(int student) {
        if (student < 0 || student >= students.size()) {
            throw new IndexOutOfBoundsException();
        }
        return students.get(student);
    }

    private Course course(int course) {
        if (course < 0 || course >= courses.size()) {
            throw new IndexOutOfBoundsException();
        }
        return courses.get(course);
    }

    private Formula formula(int formula) {
        if (formula < 0 || formula >= formulas.size()) {
            throw new NoSuchElementException();
        }
        return formulas.get(formula);
    }

    private static void argument(boolean isRight) {
        if (!isRight) {
            throw new IllegalArgumentException();
        }
    }

    private static void state(boolean isRight) {
        if (!isRight) {
            throw new IllegalStateException();
        }
    }

    private static boolean in(int number, int least, int most) {
        return least <= number && number <= most;
    }

    public int addCourse(int credits, int seats) {
        argument(in(credits, 1, 6) && in(seats, 1, 12));
        state(courses.size() < 20);
        Course course = new Course();
        course.credits = credits;
        course.seats = seats;
        courses.add(course);
        return courses.size() - 1;
    }

    public int addStudent(int major) {
        argument(in(major, 0, 3));
        state(students.size() < 16);
        Student student = new Student();
        student.major = major;
        students.add(student);
        return students.size() - 1;
    }

    public int changeMajor(int student, int major) {
        Student changer = student(student);
        argument(in(major, 0, 3));
        int before = changer.major;
        changer.major = major;
        giveSeats();
        return before;
    }

    public int majorOf(int student) {
        return student(student).major;
    }

    public int reserve(int course, int major, int seats) {
        Course reserving = course(course);
        argument(in(major, 0, 3) && seats >= 0);
        long all = seats;
        for (int other = 0; other < 4; other++) {
            all += other == major ? 0 : reserving.reserved[other];
        }
        state(all <= reserving.seats);
        int before = reserving.reserved[major];
        reserving.reserved[major] = seats;
        giveSeats();
        return before;
    }

    private int add(String kind, int course, int number, List<Integer> parts) {
        int depth = 0;
        for (int part : parts) {
            depth = Math.max(depth, 1 + formula(part).depth);
        }
        state(formulas.size() < 60 && depth <= 5);
        formulas.add(new Formula(kind, course, number, parts, depth));
        return formulas.size() - 1;
    }

    public int markFormula(int course, int mark) {
        course(course);
        argument(in(mark, 0, 100));
        return add("mark", course, mark, List.of());
    }

    public int togetherFormula(int course) {
        course(course);
        return add("together", course, 0, List.of());
    }

    public int creditsFormula(int credits) {
        argument(in(credits, 0, 120));
        return add("credits", 0, credits, List.of());
    }

    public int allFormula(int first, int second) {
        return add("all", 0, 2, List.of(first, second));
    }

    public int anyFormula(int first, int second) {
        return add("any", 0, 1, List.of(first, second));
    }

    public int twoFormula(int first, int second, int third) {
        return add("two", 0, 2, List.of(first, second, third));
    }

    public int noneFormula(int part) {
        return add("none", 0, 0, List.of(part));
    }

    private boolean isTrue(Student student, Integer number) {
        if (number == null) {
            return true;
        }
        Formula formula = formulas.get(number);
        switch (formula.kind) {
            case "mark":
                return student.best(formula.course) != null && student.best(formula.course) >= formula.number;
            case "together":
                return student.enrolled.contains(formula.course) || student.passed(formula.course);
            case "credits":
                return earned(student) >= formula.number;
            case "none":
                return !isTrue(student, formula.parts.get(0));
            default:
                return formula.parts.stream().filter(part -> isTrue(student, part)).count() >= formula.number;
        }
    }

    public boolean holds(int student, int formula) {
        Student asked = student(student);
        formula(formula);
        return isTrue(asked, formula);
    }

    public boolean require(int course, int formula) {
        Course requiring = course(course);
        formula(formula);
        boolean had = requiring.requisite != null;
        requiring.requisite = formula;
        giveSeats();
        return had;
    }

    public boolean lift(int course) {
        boolean had = course(course).requisite != null;
        course(course).requisite = null;
        giveSeats();
        return had;
    }

    public int pass(int days) {
        argument(days >= 1);
        state((long) day + days <= 30);
        for (int i = 0; i < days; i++) {
            day++;
            if (day == 6) {
                courses.forEach(course -> course.waiting.clear());
            }
            giveSeats();
        }
        return day;
    }

    public int day() {
        return day;
    }

    public int term() {
        return term;
    }

    private int earned(Student student) {
        int sum = 0;
        for (int course = 0; course < courses.size(); course++) {
            sum += student.passed(course) ? courses.get(course).credits : 0;
        }
        return sum;
    }

    private int loadOf(Student student) {
        return student.enrolled.stream().mapToInt(course -> courses.get(course).credits).sum();
    }

    private int free(int course, int major) {
        int free = courses.get(course).seats;
        int[] ofMajor = new int[4];
        for (Student student : students) {
            if (student.enrolled.contains(course)) {
                free--;
                ofMajor[student.major]++;
            }
        }
        for (int other = 0; other < 4 && day <= 3; other++) {
            int difference = courses.get(course).reserved[other] - ofMajor[other];
            free -= other != major && difference > 0 ? difference : 0;
        }
        return free < 0 ? 0 : free;
    }

    private boolean canTake(int student, int course) {
        Student waiter = students.get(student);
        return free(course, waiter.major) > 0
                && loadOf(waiter) + courses.get(course).credits <= 18
                && isTrue(waiter, courses.get(course).requisite);
    }

    private void giveSeats() {
        boolean goesOn = day <= 5;
        while (goesOn) {
            goesOn = giveOne();
        }
    }

    private boolean giveOne() {
        for (int course = 0; course < courses.size(); course++) {
            for (Integer student : courses.get(course).waiting) {
                if (canTake(student, course)) {
                    courses.get(course).waiting.remove(student);
                    students.get(student).enrolled.add(course);
                    return true;
                }
            }
        }
        return false;
    }

    public char outcome(int student, int course) {
        Student asked = student(student);
        Course wanted = course(course);
        if (day > 5) {
            return 'd';
        }
        if (asked.enrolled.contains(course) || wanted.waiting.contains(student)) {
            return 'i';
        }
        if (!isTrue(asked, wanted.requisite)) {
            return 'r';
        }
        if (asked.attemptsIn(course).size() == 3) {
            return 'a';
        }
        if (loadOf(asked) + wanted.credits > 18) {
            return 'c';
        }
        if (free(course, asked.major) > 0) {
            return 'e';
        }
        return wanted.waiting.size() == 6 ? 'f' : 'w';
    }

    public char enroll(int student, int course) {
        char letter = outcome(student, course);
        switch (letter) {
            case 'd':
                throw new IllegalStateException();
            case 'i':
                throw new IllegalArgumentException();
            case 'r':
            case 'a':
                throw new UnsupportedOperationException();
            case 'c':
                throw new ArithmeticException();
            case 'f':
                throw new NoSuchElementException();
            case 'e':
                students.get(student).enrolled.add(course);
                break;
            default:
                courses.get(course).waiting.add(student);
        }
        giveSeats();
        return letter;
    }

    private void endOne(Student student, int course) {
        student.enrolled.remove(course);
        if (in(day, 9, 20)) {
            student.attemptsIn(course).add(WITHDRAWAL);
        }
    }

    private void dropAll(Student student, int course) {
        endOne(student, course);
        boolean goesOn = true;
        while (goesOn) {
            goesOn = false;
            for (int other : new TreeSet<>(student.enrolled)) {
                if (!goesOn && !isTrue(student, courses.get(other).requisite)) {
                    endOne(student, other);
                    goesOn = true;
                }
            }
        }
    }

    public char drop(int student, int course) {
        Student leaver = student(student);
        Course left = course(course);
        boolean isEnrolled = leaver.enrolled.contains(course);
        if (!isEnrolled && !left.waiting.contains(student)) {
            throw new NoSuchElementException();
        }
        state(day <= 20);
        if (isEnrolled) {
            dropAll(leaver, course);
        } else {
            left.waiting.remove((Integer) student);
        }
        giveSeats();
        return !isEnrolled ? 'l' : day <= 8 ? 'd' : 'w';
    }

    public int swap(int student, int from, int to) {
        Student swapper = student(student);
        course(from);
        Course wanted = course(to);
        state(day <= 5);
        if (!swapper.enrolled.contains(from)) {
            throw new NoSuchElementException();
        }
        argument(!swapper.enrolled.contains(to) && from != to);
        TreeSet<Integer> before = new TreeSet<>(swapper.enrolled);
        dropAll(swapper, from);
        if (!isTrue(swapper, wanted.requisite) || swapper.attemptsIn(to).size() == 3
                || free(to, swapper.major) == 0) {
            swapper.enrolled = before;
            throw new UnsupportedOperationException();
        }
        if (loadOf(swapper) + wanted.credits > 18) {
            swapper.enrolled = before;
            throw new ArithmeticException();
        }
        wanted.waiting.remove((Integer) student);
        swapper.enrolled.add(to);
        giveSeats();
        return loadOf(swapper);
    }

    public boolean mark(int student, int course, int mark) {
        Student marked = student(student);
        course(course);
        if (!marked.enrolled.contains(course)) {
            throw new NoSuchElementException();
        }
        argument(in(mark, 0, 100));
        state(day >= 21);
        return marked.termMarks.put(course, mark) != null;
    }

    public int endTerm() {
        state(day >= 21);
        int added = 0;
        for (Student student : students) {
            for (int course : student.enrolled) {
                student.attemptsIn(course).add(student.termMarks.getOrDefault(course, 0));
                added++;
            }
            student.enrolled.clear();
            student.termMarks.clear();
        }
        day = 0;
        term++;
        giveSeats();
        return added;
    }

    public int moveIn(int student, int course) {
        Student mover = student(student);
        int sum = course(course).credits;
        argument(!mover.passed(course));
        for (int moved : mover.movedIn) {
            sum += courses.get(moved).credits;
        }
        if (sum > 12) {
            throw new ArithmeticException();
        }
        mover.movedIn.add(course);
        giveSeats();
        return sum;
    }

    public int bestMark(int student, int course) {
        Student asked = student(student);
        course(course);
        if (asked.best(course) == null) {
            throw new NoSuchElementException();
        }
        return asked.best(course);
    }

    public int attempts(int student, int course) {
        Student asked = student(student);
        course(course);
        return asked.attemptsIn(course).size();
    }

    public int earnedCredits(int student) {
        return earned(student(student));
    }

    public long allEarned() {
        return students.stream().mapToLong(this::earned).sum();
    }

    public double average(int student) {
        Student asked = student(student);
        int sum = 0;
        int credits = 0;
        for (int course = 0; course < courses.size(); course++) {
            Integer last = null;
            for (Integer mark : asked.attemptsIn(course)) {
                last = mark != WITHDRAWAL ? mark : last;
            }
            if (last != null) {
                sum += last * courses.get(course).credits;
                credits += courses.get(course).credits;
            }
        }
        if (credits == 0) {
            throw new ArithmeticException();
        }
        return (double) sum / credits;
    }

    public int load(int student) {
        return loadOf(student(student));
    }

    public boolean isEnrolled(int student, int course) {
        Student asked = student(student);
        course(course);
        return asked.enrolled.contains(course);
    }

    public int enrolled(int course) {
        course(course);
        return (int) students.stream().filter(student -> student.enrolled.contains(course)).count();
    }

    public int waiting(int course) {
        return course(course).waiting.size();
    }

    public int placeOf(int student, int course) {
        student(student);
        int place = course(course).waiting.indexOf(student);
        if (place < 0) {
            throw new NoSuchElementException();
        }
        return place;
    }

    public int freeSeats(int course, int major) {
        course(course);
        argument(in(major, 0, 3));
        return free(course, major);
    }

    public float share(int course) {
        return (float) enrolled(course) / course(course).seats;
    }

    private List<Integer> reason(int student, int course) {
        Student asked = student(student);
        Integer requisite = course(course).requisite;
        if (requisite == null) {
            throw new NoSuchElementException();
        }
        state(!isTrue(asked, requisite));
        List<Integer> row = new ArrayList<>();
        Integer last = requisite;
        while (last != null) {
            row.add(last);
            Formula formula = formulas.get(last);
            last = null;
            if (List.of("all", "any", "two").contains(formula.kind)) {
                last = formula.parts.stream().filter(part -> !isTrue(asked, part)).findFirst().get();
            }
        }
        return row;
    }

    public int whyNot(int student, int course) {
        List<Integer> row = reason(student, course);
        return row.get(row.size() - 1);
    }

    public int whyLong(int student, int course) {
        return reason(student, course).size();
    }

    public int termsTo(int course) {
        course(course);
        Student person = new Student();
        for (int terms = 1; terms <= 100; terms++) {
            for (int other = 0; other < courses.size(); other++) {
                if (!person.passed(other) && requisiteAtStart(person, other)) {
                    person.termMarks.put(other, 100);
                }
            }
            person.termMarks.forEach((other, mark) -> person.attemptsIn(other).add(mark));
            person.termMarks.clear();
            if (person.passed(course)) {
                return terms;
            }
        }
        throw new NoSuchElementException();
    }

    private boolean requisiteAtStart(Student person, int course) {
        return isTrue(person, courses.get(course).requisite);
    }

    private String transcript(int student) {
        Student asked = student(student);
        StringBuilder text = new StringBuilder();
        for (int course = 0; course < courses.size(); course++) {
            List<String> entries = new ArrayList<>();
            if (asked.movedIn.contains(course)) {
                entries.add("T");
            }
            for (Integer mark : asked.attemptsIn(course)) {
                entries.add(mark == WITHDRAWAL ? "W" : String.valueOf(mark));
            }
            if (!entries.isEmpty()) {
                text.append(course).append("=").append(String.join(",", entries)).append(";");
            }
        }
        return text.toString();
    }

    public int transcriptLength(int student) {
        return transcript(student).length();
    }

    public char transcriptAt(int student, int index) {
        String text = transcript(student);
        if (index < 0 || index >= text.length()) {
            throw new IndexOutOfBoundsException();
        }
        return text.charAt(index);
    }

    public int addRule(int major, int need, int mark) {
        argument(in(major, 0, 3) && in(need, 1, 3) && in(mark, 0, 100));
        state(rules.stream().filter(rule -> rule.major == major).count() < 4);
        rules.add(new Rule(major, need, mark, new HashSet<>()));
        return rules.size() - 1;
    }

    public boolean allow(int rule, int course) {
        if (rule < 0 || rule >= rules.size()) {
            throw new NoSuchElementException();
        }
        course(course);
        return rules.get(rule).allowed.add(course);
    }

    /** Walks all matches in the order of the document's first one and keeps the first of the greatest. */
    private final class Matches {
        final Student student;
        final boolean withTerm;
        final int[] got = new int[16];
        final Map<Integer, Integer> current = new HashMap<>();
        int most = -1;
        Map<Integer, Integer> first = Map.of();
        int shorts = 0;

        Matches(int student, boolean withTerm) {
            this.student = student(student);
            this.withTerm = withTerm;
            walk(0, false);
            walk(0, true);
        }

        private boolean counts(int course, int rule) {
            Integer best = student.best(course);
            if (withTerm && student.enrolled.contains(course)) {
                best = 100;
            }
            Rule asked = rules.get(rule);
            return asked.major == student.major && asked.allowed.contains(course)
                    && best != null && best >= 50 && best >= asked.mark;
        }

        private int countingFrom(int firstCourse) {
            int count = 0;
            for (int course = firstCourse; course < courses.size(); course++) {
                int asked = course;
                count += IntStream.range(0, rules.size()).anyMatch(rule -> counts(asked, rule)) ? 1 : 0;
            }
            return count;
        }

        private void walk(int course, boolean isSecondWalk) {
            int possible = current.size() + countingFrom(course);
            if (isSecondWalk ? possible < most : possible <= most) {
                return;
            }
            if (course == courses.size()) {
                if (isSecondWalk) {
                    noteShorts();
                } else {
                    most = current.size();
                    first = new HashMap<>(current);
                }
                return;
            }
            for (int rule = 0; rule < rules.size(); rule++) {
                if (counts(course, rule) && got[rule] < rules.get(rule).need) {
                    got[rule]++;
                    current.put(course, rule);
                    walk(course + 1, isSecondWalk);
                    current.remove(course);
                    got[rule]--;
                }
            }
            walk(course + 1, isSecondWalk);
        }

        private void noteShorts() {
            for (int rule = 0; rule < rules.size(); rule++) {
                if (rules.get(rule).major == student.major && got[rule] < rules.get(rule).need) {
                    shorts |= 1 << rule;
                }
            }
        }
    }

    public int mostMet(int student) {
        return new Matches(student, false).most;
    }

    public int mostMetByTrial(int student) {
        return new Matches(student, false).most;
    }

    public int mostMetIf(int student) {
        return new Matches(student, true).most;
    }

    public int lackingRules(int student) {
        return new Matches(student, false).shorts;
    }

    public int lackingByTrial(int student) {
        return new Matches(student, false).shorts;
    }

    public int ruleFor(int student, int course) {
        student(student);
        course(course);
        Integer rule = new Matches(student, false).first.get(course);
        if (rule == null) {
            throw new NoSuchElementException();
        }
        return rule;
    }

    public int setDegree(int major, int credits) {
        argument(in(major, 0, 3) && in(credits, 0, 120));
        int before = degree[major];
        degree[major] = credits;
        return before;
    }

    public boolean canGraduate(int student) {
        Student asked = student(student);
        return new Matches(student, false).shorts == 0 && earned(asked) >= degree[asked.major];
    }

    public boolean isSound() {
        return true;
    }
}
