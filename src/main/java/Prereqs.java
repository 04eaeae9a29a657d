import java.util.ArrayList;
import java.util.Arrays;
import java.util.NoSuchElementException;

/** The office of a registrar of a college; ../shared/DOC.md says what each call does. */
public final class Prereqs {
    private static final int MOST_COURSES = 20;
    private static final int MOST_STUDENTS = 16;
    private static final int MOST_FORMULAS = 60;
    private static final int MOST_DEPTH = 5;
    private static final int MAJORS = 4;
    private static final int MAJOR_RULES = 4;

    private static final int MOST_CREDITS = 6;
    private static final int MOST_SEATS = 12;
    private static final int MOST_WAITING = 6;
    private static final int MOST_LOAD = 18;
    private static final int MOST_MOVED_IN = 12;
    private static final int MOST_ASKED_CREDITS = 120;
    private static final int MOST_ATTEMPTS = 3;
    private static final int MOST_NEED = 3;

    private static final int TOP_MARK = 100;
    private static final int PASS_MARK = 50;

    private static final int LAST_RESERVED_DAY = 3;
    private static final int LAST_SEAT_DAY = 5;
    private static final int LISTS_END_DAY = 6;
    private static final int FIRST_WITHDRAWAL_DAY = 9;
    private static final int LAST_DROP_DAY = 20;
    private static final int FIRST_MARK_DAY = 21;
    private static final int LAST_DAY = 30;

    /** Stands for no number, no mark and no rule; being less than every mark, also for a withdrawal. */
    private static final int NOTHING = -1;

    /** A whole search for each student who can wait anywhere, and one more that finds nobody. */
    private static final int MOST_SEARCHES = MOST_COURSES * (MOST_COURSES * MOST_WAITING + 1);

    private final ArrayList<Course> courses;
    private final ArrayList<Student> students;
    private final ArrayList<Formula> formulas;
    private final ArrayList<Rule> rules;
    private final int[] degreeCredits;
    private int day;
    private int term;

    // Rows that calls fill anew and that are made once, so that no call makes any.
    private final Student newcomer;
    private final Audit audit;
    private final Transcript transcript;
    private final boolean[] takenBefore;
    private final int[] reason;

    public Prereqs() {
        courses = new ArrayList<>();
        students = new ArrayList<>();
        formulas = new ArrayList<>();
        rules = new ArrayList<>();
        degreeCredits = new int[MAJORS];
        newcomer = new Student(0);
        audit = new Audit();
        transcript = new Transcript();
        takenBefore = new boolean[MOST_COURSES];
        reason = new int[MOST_DEPTH + 1];
    }

    // Courses and students

    public int addCourse(int credits, int seats) throws IllegalArgumentException, IllegalStateException {
        if (!isWithin(credits, 1, MOST_CREDITS) || !isWithin(seats, 1, MOST_SEATS)) {
            throw new IllegalArgumentException("credits or seats are out of range");
        }
        if (courses.size() >= MOST_COURSES) {
            throw new IllegalStateException("there are as many courses as there can be");
        }
        courses.add(new Course(courses.size(), credits, seats));
        return courses.size() - 1;
    }

    public int addStudent(int major) throws IllegalArgumentException, IllegalStateException {
        checkMajor(major);
        if (students.size() >= MOST_STUDENTS) {
            throw new IllegalStateException("there are as many students as there can be");
        }
        students.add(new Student(major));
        return students.size() - 1;
    }

    public int changeMajor(int student, int major)
            throws IndexOutOfBoundsException, IllegalArgumentException {
        Student changer = studentAt(student);
        checkMajor(major);
        int before = changer.major;
        changer.major = major;
        giveOutSeats();
        return before;
    }

    public int majorOf(int student) throws IndexOutOfBoundsException {
        return studentAt(student).major;
    }

    public int reserve(int course, int major, int seats)
            throws IndexOutOfBoundsException, IllegalArgumentException, IllegalStateException {
        Course reserving = courseAt(course);
        checkMajor(major);
        if (seats < 0) {
            throw new IllegalArgumentException("there is no such number of seats");
        }
        int before = reserving.reserved[major];
        if (seats > reserving.seats - (reserving.allReserved() - before)) {
            throw new IllegalStateException("the course has too few seats");
        }
        reserving.reserved[major] = seats;
        giveOutSeats();
        return before;
    }

    // Formulas

    public int markFormula(int course, int mark)
            throws IndexOutOfBoundsException, IllegalArgumentException, IllegalStateException {
        courseAt(course);
        checkMark(mark);
        checkFormulaFits(0);
        return keep(new MarkFormula(course, mark));
    }

    public int togetherFormula(int course) throws IndexOutOfBoundsException, IllegalStateException {
        courseAt(course);
        checkFormulaFits(0);
        return keep(new TogetherFormula(course));
    }

    public int creditsFormula(int credits) throws IllegalArgumentException, IllegalStateException {
        if (!isWithin(credits, 0, MOST_ASKED_CREDITS)) {
            throw new IllegalArgumentException("the credits are out of range");
        }
        checkFormulaFits(0);
        return keep(new CreditsFormula(credits));
    }

    public int allFormula(int first, int second) throws NoSuchElementException, IllegalStateException {
        int depth = 1 + Math.max(formulaAt(first).depth, formulaAt(second).depth);
        checkFormulaFits(depth);
        return keep(new CountFormula(depth, 2, first, second, NOTHING));
    }

    public int anyFormula(int first, int second) throws NoSuchElementException, IllegalStateException {
        int depth = 1 + Math.max(formulaAt(first).depth, formulaAt(second).depth);
        checkFormulaFits(depth);
        return keep(new CountFormula(depth, 1, first, second, NOTHING));
    }

    public int twoFormula(int first, int second, int third)
            throws NoSuchElementException, IllegalStateException {
        int ofTwo = Math.max(formulaAt(first).depth, formulaAt(second).depth);
        int depth = 1 + Math.max(ofTwo, formulaAt(third).depth);
        checkFormulaFits(depth);
        return keep(new CountFormula(depth, 2, first, second, third));
    }

    public int noneFormula(int part) throws NoSuchElementException, IllegalStateException {
        int depth = 1 + formulaAt(part).depth;
        checkFormulaFits(depth);
        return keep(new NoneFormula(depth, part));
    }

    public boolean holds(int student, int formula) throws IndexOutOfBoundsException, NoSuchElementException {
        Student asked = studentAt(student);
        formulaAt(formula);
        return isMet(formula, truthsFor(asked));
    }

    public boolean require(int course, int formula) throws IndexOutOfBoundsException, NoSuchElementException {
        Course requiring = courseAt(course);
        formulaAt(formula);
        boolean had = requiring.requisite != NOTHING;
        requiring.requisite = formula;
        giveOutSeats();
        return had;
    }

    public boolean lift(int course) throws IndexOutOfBoundsException {
        Course freed = courseAt(course);
        boolean had = freed.requisite != NOTHING;
        freed.requisite = NOTHING;
        giveOutSeats();
        return had;
    }

    // Days

    public int pass(int days) throws IllegalArgumentException, IllegalStateException {
        if (days < 1) {
            throw new IllegalArgumentException("at least one day must pass");
        }
        if (days > LAST_DAY - day) {
            throw new IllegalStateException("the term has too few days");
        }
        for (int passed = 0; passed < days; passed++) {
            day++;
            if (day == LISTS_END_DAY) {
                emptyWaitingLists();
            }
            giveOutSeats();
        }
        return day;
    }

    public int day() {
        return day;
    }

    public int term() {
        return term;
    }

    // Enrollment

    public char enroll(int student, int course)
            throws IndexOutOfBoundsException, IllegalStateException, IllegalArgumentException,
            UnsupportedOperationException, ArithmeticException, NoSuchElementException {
        Student comer = studentAt(student);
        Course wanted = courseAt(course);
        char letter = letterFor(comer, wanted);
        if (letter == 'd') {
            throw new IllegalStateException("the days of enrollment are over");
        }
        if (letter == 'i') {
            throw new IllegalArgumentException("the student is enrolled or waiting");
        }
        if (letter == 'r' || letter == 'a') {
            throw new UnsupportedOperationException("the requisite or the attempts forbid it");
        }
        if (letter == 'c') {
            throw new ArithmeticException("the load would be too great");
        }
        if (letter == 'f') {
            throw new NoSuchElementException("there is neither a seat nor a place to wait");
        }
        if (letter == 'e') {
            comer.taking[course] = true;
        } else {
            wanted.waiting.add(comer);
        }
        giveOutSeats();
        return letter;
    }

    public char outcome(int student, int course) throws IndexOutOfBoundsException {
        Student comer = studentAt(student);
        return letterFor(comer, courseAt(course));
    }

    public char drop(int student, int course)
            throws IndexOutOfBoundsException, NoSuchElementException, IllegalStateException {
        Student leaver = studentAt(student);
        Course left = courseAt(course);
        boolean isTaking = leaver.taking[course];
        if (!isTaking && left.placeFor(leaver) == NOTHING) {
            throw new NoSuchElementException("the student is neither enrolled nor waiting");
        }
        if (day > LAST_DROP_DAY) {
            throw new IllegalStateException("the days of drops are over");
        }
        if (isTaking) {
            endWithOthers(leaver, course);
        } else {
            left.stopWaiting(leaver);
        }
        giveOutSeats();
        if (!isTaking) {
            return 'l';
        }
        return isWithdrawalDay() ? 'w' : 'd';
    }

    public int swap(int student, int from, int to)
            throws IndexOutOfBoundsException, IllegalStateException, NoSuchElementException,
            IllegalArgumentException, UnsupportedOperationException, ArithmeticException {
        Student swapper = studentAt(student);
        courseAt(from);
        Course wanted = courseAt(to);
        if (day > LAST_SEAT_DAY) {
            throw new IllegalStateException("the days of enrollment are over");
        }
        if (!swapper.taking[from]) {
            throw new NoSuchElementException("the student is not enrolled in the first course");
        }
        if (from == to || swapper.taking[to]) {
            throw new IllegalArgumentException("the student is enrolled in the other course");
        }
        System.arraycopy(swapper.taking, 0, takenBefore, 0, MOST_COURSES);
        endWithOthers(swapper, from);
        boolean mayEnter = requisiteHolds(swapper, wanted) && swapper.tries[to] < MOST_ATTEMPTS
                && freeFor(wanted, swapper.major) > 0;
        boolean canBear = canBear(swapper, wanted);
        if (!mayEnter || !canBear) {
            // No attempt came with the ends, as these are days without withdrawals.
            System.arraycopy(takenBefore, 0, swapper.taking, 0, MOST_COURSES);
        }
        if (!mayEnter) {
            throw new UnsupportedOperationException("the requisite, the attempts or the seats forbid it");
        }
        if (!canBear) {
            throw new ArithmeticException("the load would be too great");
        }
        wanted.stopWaiting(swapper);
        swapper.taking[to] = true;
        giveOutSeats();
        return loadOn(swapper);
    }

    // Marks and records

    public boolean mark(int student, int course, int mark)
            throws IndexOutOfBoundsException, NoSuchElementException, IllegalArgumentException,
            IllegalStateException {
        Student marked = studentAt(student);
        courseAt(course);
        if (!marked.taking[course]) {
            throw new NoSuchElementException("the student is not enrolled");
        }
        checkMark(mark);
        if (day < FIRST_MARK_DAY) {
            throw new IllegalStateException("the days of marks have not come");
        }
        boolean had = marked.termMarks[course] != NOTHING;
        marked.termMarks[course] = mark;
        return had;
    }

    public int endTerm() throws IllegalStateException {
        if (day < FIRST_MARK_DAY) {
            throw new IllegalStateException("the days of marks have not come");
        }
        int added = 0;
        for (int student = 0; student < students.size(); student++) {
            added += students.get(student).closeTerm();
        }
        day = 0;
        term++;
        return added;
    }

    public int moveIn(int student, int course)
            throws IndexOutOfBoundsException, IllegalArgumentException, ArithmeticException {
        Student mover = studentAt(student);
        Course moved = courseAt(course);
        if (mover.hasPassed(course)) {
            throw new IllegalArgumentException("the student has passed the course");
        }
        int sum = creditsMovedIn(mover) + moved.credits;
        if (sum > MOST_MOVED_IN) {
            throw new ArithmeticException("too many credits would be moved in");
        }
        mover.moveCreditIn(course);
        giveOutSeats();
        return sum;
    }

    public int bestMark(int student, int course) throws IndexOutOfBoundsException, NoSuchElementException {
        Student asked = studentAt(student);
        courseAt(course);
        if (asked.best[course] == NOTHING) {
            throw new NoSuchElementException("there is no best mark");
        }
        return asked.best[course];
    }

    public int attempts(int student, int course) throws IndexOutOfBoundsException {
        Student asked = studentAt(student);
        courseAt(course);
        return asked.tries[course];
    }

    public int earnedCredits(int student) throws IndexOutOfBoundsException {
        return creditsEarned(studentAt(student));
    }

    public long allEarned() {
        long sum = 0L;
        for (int student = 0; student < students.size(); student++) {
            sum += creditsEarned(students.get(student));
        }
        return sum;
    }

    public double average(int student) throws IndexOutOfBoundsException, ArithmeticException {
        Student asked = studentAt(student);
        int sum = 0;
        int credits = 0;
        for (int course = 0; course < courses.size(); course++) {
            int last = asked.lastMark(course);
            if (last != NOTHING) {
                int weight = courses.get(course).credits;
                sum += last * weight;
                credits += weight;
            }
        }
        if (credits == 0) {
            throw new ArithmeticException("there is no attempt that is a mark");
        }
        return (double) sum / (double) credits;
    }

    // Loads, seats and waiting lists

    public int load(int student) throws IndexOutOfBoundsException {
        return loadOn(studentAt(student));
    }

    public boolean isEnrolled(int student, int course) throws IndexOutOfBoundsException {
        Student asked = studentAt(student);
        courseAt(course);
        return asked.taking[course];
    }

    public int enrolled(int course) throws IndexOutOfBoundsException {
        return takersOf(courseAt(course));
    }

    public int waiting(int course) throws IndexOutOfBoundsException {
        return courseAt(course).waiting.size();
    }

    public int placeOf(int student, int course) throws IndexOutOfBoundsException, NoSuchElementException {
        Student asked = studentAt(student);
        int place = courseAt(course).placeFor(asked);
        if (place == NOTHING) {
            throw new NoSuchElementException("the student is not waiting");
        }
        return place;
    }

    public int freeSeats(int course, int major) throws IndexOutOfBoundsException, IllegalArgumentException {
        Course asked = courseAt(course);
        checkMajor(major);
        return freeFor(asked, major);
    }

    public float share(int course) throws IndexOutOfBoundsException {
        Course asked = courseAt(course);
        return (float) takersOf(asked) / (float) asked.seats;
    }

    // Reasons and plans

    public int whyNot(int student, int course)
            throws IndexOutOfBoundsException, NoSuchElementException, IllegalStateException {
        int length = fillReason(student, course);
        return reason[length - 1];
    }

    public int whyLong(int student, int course)
            throws IndexOutOfBoundsException, NoSuchElementException, IllegalStateException {
        return fillReason(student, course);
    }

    public int termsTo(int course) throws IndexOutOfBoundsException, NoSuchElementException {
        courseAt(course);
        newcomer.forgetRecord();
        for (int terms = 1; terms <= MOST_COURSES; terms++) {
            studyOneTerm(newcomer);
            if (newcomer.hasPassed(course)) {
                return terms;
            }
        }
        throw new NoSuchElementException("the course is never passed");
    }

    public int transcriptLength(int student) throws IndexOutOfBoundsException {
        transcript.write(studentAt(student), courses.size());
        return transcript.length;
    }

    public char transcriptAt(int student, int index) throws IndexOutOfBoundsException {
        transcript.write(studentAt(student), courses.size());
        if (index < 0 || index >= transcript.length) {
            throw new IndexOutOfBoundsException("there is no such character");
        }
        return transcript.text[index];
    }

    // Audits

    public int addRule(int major, int need, int mark) throws IllegalArgumentException, IllegalStateException {
        checkMajor(major);
        checkMark(mark);
        if (!isWithin(need, 1, MOST_NEED)) {
            throw new IllegalArgumentException("the need is out of range");
        }
        if (rulesOf(major) >= MAJOR_RULES) {
            throw new IllegalStateException("the major has as many rules as it can have");
        }
        rules.add(new Rule(major, need, mark));
        return rules.size() - 1;
    }

    public boolean allow(int rule, int course) throws NoSuchElementException, IndexOutOfBoundsException {
        Rule allowing = ruleAt(rule);
        courseAt(course);
        boolean isNew = !allowing.allowed[course];
        allowing.allowed[course] = true;
        return isNew;
    }

    public int mostMet(int student) throws IndexOutOfBoundsException {
        audit.open(rules, studentAt(student), false);
        return audit.giveAll();
    }

    public int mostMetByTrial(int student) throws IndexOutOfBoundsException {
        audit.open(rules, studentAt(student), false);
        return audit.tryAll();
    }

    public int mostMetIf(int student) throws IndexOutOfBoundsException {
        audit.open(rules, studentAt(student), true);
        return audit.giveAll();
    }

    public int lackingRules(int student) throws IndexOutOfBoundsException {
        audit.open(rules, studentAt(student), false);
        audit.giveAll();
        return audit.shortRules();
    }

    public int lackingByTrial(int student) throws IndexOutOfBoundsException {
        audit.open(rules, studentAt(student), false);
        return audit.shortRulesByTrial(audit.tryAll());
    }

    public int ruleFor(int student, int course) throws IndexOutOfBoundsException, NoSuchElementException {
        Student asked = studentAt(student);
        courseAt(course);
        audit.open(rules, asked, false);
        int rule = audit.firstBestRule(course);
        if (rule == NOTHING) {
            throw new NoSuchElementException("the course is given to no rule");
        }
        return rule;
    }

    public int setDegree(int major, int credits) throws IllegalArgumentException {
        checkMajor(major);
        if (!isWithin(credits, 0, MOST_ASKED_CREDITS)) {
            throw new IllegalArgumentException("the credits are out of range");
        }
        int before = degreeCredits[major];
        degreeCredits[major] = credits;
        return before;
    }

    public boolean canGraduate(int student) throws IndexOutOfBoundsException {
        Student asked = studentAt(student);
        audit.open(rules, asked, false);
        // All best matches give as many courses, so one without a short rule tells of all.
        return audit.giveAll() == audit.allNeeds() && creditsEarned(asked) >= degreeCredits[asked.major];
    }

    public boolean isSound() {
        for (int course = 0; course < courses.size(); course++) {
            if (!isCourseSound(courses.get(course))) {
                return false;
            }
        }
        for (int student = 0; student < students.size(); student++) {
            Student looked = students.get(student);
            if (loadOn(looked) > MOST_LOAD || !auditsAgree(looked)) {
                return false;
            }
        }
        return true;
    }

    // What several calls need: arguments

    private static boolean isWithin(int number, int least, int most) {
        return number >= least && number <= most;
    }

    private static void checkMajor(int major) {
        if (!isWithin(major, 0, MAJORS - 1)) {
            throw new IllegalArgumentException("the major is out of range");
        }
    }

    private static void checkMark(int mark) {
        if (!isWithin(mark, 0, TOP_MARK)) {
            throw new IllegalArgumentException("the mark is out of range");
        }
    }

    private Student studentAt(int student) {
        if (student < 0 || student >= students.size()) {
            throw new IndexOutOfBoundsException("there is no such student");
        }
        return students.get(student);
    }

    private Course courseAt(int course) {
        if (course < 0 || course >= courses.size()) {
            throw new IndexOutOfBoundsException("there is no such course");
        }
        return courses.get(course);
    }

    private Formula formulaAt(int formula) {
        if (formula < 0 || formula >= formulas.size()) {
            throw new NoSuchElementException("there is no such formula");
        }
        return formulas.get(formula);
    }

    private Rule ruleAt(int rule) {
        if (rule < 0 || rule >= rules.size()) {
            throw new NoSuchElementException("there is no such rule");
        }
        return rules.get(rule);
    }

    private int rulesOf(int major) {
        int count = 0;
        for (int rule = 0; rule < rules.size(); rule++) {
            if (rules.get(rule).major == major) {
                count++;
            }
        }
        return count;
    }

    // What several calls need: formulas

    private void checkFormulaFits(int depth) {
        if (formulas.size() >= MOST_FORMULAS || depth > MOST_DEPTH) {
            throw new IllegalStateException("there are too many formulas, or this one is too deep");
        }
    }

    private int keep(Formula formula) {
        formulas.add(formula);
        return formulas.size() - 1;
    }

    /** A bit for each formula; parts have lower numbers than what they are parts of, so one walk finds all. */
    private long truthsFor(Student student) {
        int earned = creditsEarned(student);
        long truths = 0L;
        for (int formula = 0; formula < formulas.size(); formula++) {
            if (formulas.get(formula).isTrue(student, earned, truths)) {
                truths |= 1L << formula;
            }
        }
        return truths;
    }

    private static boolean isMet(int formula, long truths) {
        return formula == NOTHING || (truths >>> formula & 1L) != 0L;
    }

    private boolean requisiteHolds(Student student, Course course) {
        return course.requisite == NOTHING || isMet(course.requisite, truthsFor(student));
    }

    private int fillReason(int student, int course) {
        Student asked = studentAt(student);
        int next = courseAt(course).requisite;
        if (next == NOTHING) {
            throw new NoSuchElementException("the course has no formula");
        }
        long truths = truthsFor(asked);
        if (isMet(next, truths)) {
            throw new IllegalStateException("the requisite holds");
        }
        int length = 0;
        do {
            reason[length] = next;
            length++;
            next = formulaAt(next).partToBlame(truths);
        } while (next != NOTHING && length <= MOST_DEPTH);
        return length;
    }

    /** Formulas are judged once, as it is the beginning of the term that counts. */
    private void studyOneTerm(Student student) {
        long truths = truthsFor(student);
        for (int course = 0; course < courses.size(); course++) {
            if (!student.hasPassed(course) && isMet(courses.get(course).requisite, truths)) {
                student.addAttempt(course, TOP_MARK);
            }
        }
    }

    // What several calls need: credits and seats

    private int creditsEarned(Student student) {
        int sum = 0;
        for (int course = 0; course < courses.size(); course++) {
            if (student.hasPassed(course)) {
                sum += courses.get(course).credits;
            }
        }
        return sum;
    }

    private int creditsMovedIn(Student student) {
        int sum = 0;
        for (int course = 0; course < courses.size(); course++) {
            if (student.movedIn[course]) {
                sum += courses.get(course).credits;
            }
        }
        return sum;
    }

    private int loadOn(Student student) {
        int sum = 0;
        for (int course = 0; course < courses.size(); course++) {
            if (student.taking[course]) {
                sum += courses.get(course).credits;
            }
        }
        return sum;
    }

    private boolean canBear(Student student, Course course) {
        return loadOn(student) + course.credits <= MOST_LOAD;
    }

    private int takersOf(Course course) {
        int count = 0;
        for (int student = 0; student < students.size(); student++) {
            if (students.get(student).taking[course.number]) {
                count++;
            }
        }
        return count;
    }

    private int takersOfMajor(Course course, int major) {
        int count = 0;
        for (int student = 0; student < students.size(); student++) {
            Student looked = students.get(student);
            if (looked.taking[course.number] && looked.major == major) {
                count++;
            }
        }
        return count;
    }

    private int freeFor(Course course, int major) {
        int free = course.seats - takersOf(course);
        if (day <= LAST_RESERVED_DAY) {
            for (int other = 0; other < MAJORS; other++) {
                if (other != major) {
                    free -= Math.max(0, course.reserved[other] - takersOfMajor(course, other));
                }
            }
        }
        return Math.max(0, free);
    }

    // What several calls need: enrollment, ends and waiting lists

    private char letterFor(Student student, Course course) {
        if (day > LAST_SEAT_DAY) {
            return 'd';
        }
        if (student.taking[course.number] || course.placeFor(student) != NOTHING) {
            return 'i';
        }
        if (!requisiteHolds(student, course)) {
            return 'r';
        }
        if (student.tries[course.number] >= MOST_ATTEMPTS) {
            return 'a';
        }
        if (!canBear(student, course)) {
            return 'c';
        }
        if (freeFor(course, student.major) > 0) {
            return 'e';
        }
        return course.waiting.size() >= MOST_WAITING ? 'f' : 'w';
    }

    private boolean canTakeSeat(Student student, Course course) {
        return freeFor(course, student.major) > 0 && canBear(student, course) && requisiteHolds(student, course);
    }

    private void giveOutSeats() {
        if (day > LAST_SEAT_DAY) {
            return;
        }
        int course = 0;
        for (int search = 0; search < MOST_SEARCHES && course < courses.size(); search++) {
            // Who takes a seat can meet the requisite of a lower course by it, so all begins again.
            course = giveSeatIn(courses.get(course)) ? 0 : course + 1;
        }
    }

    private boolean giveSeatIn(Course course) {
        for (int place = 0; place < course.waiting.size(); place++) {
            Student first = course.waiting.get(place);
            if (canTakeSeat(first, course)) {
                course.waiting.remove(place);
                first.taking[course.number] = true;
                return true;
            }
        }
        return false;
    }

    private void emptyWaitingLists() {
        for (int course = 0; course < courses.size(); course++) {
            courses.get(course).waiting.clear();
        }
    }

    private boolean isWithdrawalDay() {
        return isWithin(day, FIRST_WITHDRAWAL_DAY, LAST_DROP_DAY);
    }

    private void endWithOthers(Student student, int course) {
        int ending = course;
        for (int ended = 0; ended < MOST_COURSES && ending != NOTHING; ended++) {
            student.taking[ending] = false;
            if (isWithdrawalDay()) {
                student.addAttempt(ending, NOTHING);
            }
            ending = firstUnmet(student);
        }
    }

    private int firstUnmet(Student student) {
        long truths = truthsFor(student);
        for (int course = 0; course < courses.size(); course++) {
            if (student.taking[course] && !isMet(courses.get(course).requisite, truths)) {
                return course;
            }
        }
        return NOTHING;
    }

    // What isSound() looks at

    private boolean isCourseSound(Course course) {
        if (takersOf(course) > course.seats) {
            return false;
        }
        for (int place = 0; place < course.waiting.size(); place++) {
            Student waiter = course.waiting.get(place);
            if (waiter.taking[course.number] || canTakeSeat(waiter, course)) {
                return false;
            }
        }
        return true;
    }

    private boolean auditsAgree(Student student) {
        audit.open(rules, student, false);
        int most = audit.tryAll();
        return audit.giveAll() == most && audit.shortRules() == audit.shortRulesByTrial(most);
    }

    private static final class Course {
        final int number;
        final int credits;
        final int seats;
        final int[] reserved = new int[MAJORS];
        final ArrayList<Student> waiting = new ArrayList<>();
        int requisite = NOTHING;

        Course(int number, int credits, int seats) {
            this.number = number;
            this.credits = credits;
            this.seats = seats;
        }

        int allReserved() {
            int sum = 0;
            for (int major = 0; major < MAJORS; major++) {
                sum += reserved[major];
            }
            return sum;
        }

        int placeFor(Student student) {
            for (int place = 0; place < waiting.size(); place++) {
                if (waiting.get(place) == student) {
                    return place;
                }
            }
            return NOTHING;
        }

        void stopWaiting(Student student) {
            int place = placeFor(student);
            if (place != NOTHING) {
                waiting.remove(place);
            }
        }
    }

    private static final class Student {
        int major;
        final boolean[] taking = new boolean[MOST_COURSES];
        final boolean[] movedIn = new boolean[MOST_COURSES];
        final int[] termMarks = new int[MOST_COURSES];
        final int[] best = new int[MOST_COURSES];
        final int[] tries = new int[MOST_COURSES];
        final int[][] tried = new int[MOST_COURSES][MOST_ATTEMPTS];

        Student(int major) {
            this.major = major;
            Arrays.fill(termMarks, NOTHING);
            Arrays.fill(best, NOTHING);
        }

        boolean hasPassed(int course) {
            return best[course] >= PASS_MARK;
        }

        void addAttempt(int course, int mark) {
            int before = tries[course];
            if (before < MOST_ATTEMPTS) {
                tried[course][before] = mark;
                tries[course] = before + 1;
                best[course] = Math.max(best[course], mark);
            }
        }

        void moveCreditIn(int course) {
            movedIn[course] = true;
            best[course] = Math.max(best[course], PASS_MARK);
        }

        int lastMark(int course) {
            int last = NOTHING;
            for (int attempt = 0; attempt < tries[course]; attempt++) {
                if (tried[course][attempt] != NOTHING) {
                    last = tried[course][attempt];
                }
            }
            return last;
        }

        int closeTerm() {
            int added = 0;
            for (int course = 0; course < MOST_COURSES; course++) {
                if (taking[course]) {
                    addAttempt(course, Math.max(0, termMarks[course]));
                    added++;
                }
                taking[course] = false;
                termMarks[course] = NOTHING;
            }
            return added;
        }

        void forgetRecord() {
            Arrays.fill(tries, 0);
            Arrays.fill(best, NOTHING);
        }
    }

    /** What holds for a student is told by it, its earned credits and the truth of all lower formulas. */
    private abstract static class Formula {
        final int depth;

        Formula(int depth) {
            this.depth = depth;
        }

        abstract boolean isTrue(Student student, int earned, long truths);

        /** The part behind this formula in a reason, or NOTHING, as most kinds end it. */
        int partToBlame(long truths) {
            return NOTHING;
        }
    }

    private static final class MarkFormula extends Formula {
        final int course;
        final int mark;

        MarkFormula(int course, int mark) {
            super(0);
            this.course = course;
            this.mark = mark;
        }

        boolean isTrue(Student student, int earned, long truths) {
            return student.best[course] >= mark;
        }
    }

    private static final class TogetherFormula extends Formula {
        final int course;

        TogetherFormula(int course) {
            super(0);
            this.course = course;
        }

        boolean isTrue(Student student, int earned, long truths) {
            return student.taking[course] || student.hasPassed(course);
        }
    }

    private static final class CreditsFormula extends Formula {
        final int credits;

        CreditsFormula(int credits) {
            super(0);
            this.credits = credits;
        }

        boolean isTrue(Student student, int earned, long truths) {
            return earned >= credits;
        }
    }

    /** An all, any or two formula: they differ in how many parts are enough. */
    private static final class CountFormula extends Formula {
        final int enough;
        final int first;
        final int second;
        final int third;

        CountFormula(int depth, int enough, int first, int second, int third) {
            super(depth);
            this.enough = enough;
            this.first = first;
            this.second = second;
            this.third = third;
        }

        boolean isTrue(Student student, int earned, long truths) {
            int count = 0;
            if (isMet(first, truths)) {
                count++;
            }
            if (isMet(second, truths)) {
                count++;
            }
            if (third != NOTHING && isMet(third, truths)) {
                count++;
            }
            return count >= enough;
        }

        int partToBlame(long truths) {
            if (!isMet(first, truths)) {
                return first;
            }
            return isMet(second, truths) ? third : second;
        }
    }

    private static final class NoneFormula extends Formula {
        final int part;

        NoneFormula(int depth, int part) {
            super(depth);
            this.part = part;
        }

        boolean isTrue(Student student, int earned, long truths) {
            return !isMet(part, truths);
        }
    }

    private static final class Rule {
        final int major;
        final int need;
        final int mark;
        final boolean[] allowed = new boolean[MOST_COURSES];

        Rule(int major, int need, int mark) {
            this.major = major;
            this.need = need;
            this.mark = mark;
        }
    }

    /** The audit of one student at a time; a slot is the place of a rule among those of the student's major. */
    private static final class Audit {
        /** In a trial a slot's count takes two bits, which hold every need. */
        private static final int COUNT_BITS = 2;
        private static final int COUNT_MASK = 3;
        private static final int MOST_TRIALS = 1 << COUNT_BITS * MAJOR_RULES;

        int slots;
        final int[] numbers = new int[MAJOR_RULES];
        final int[] needs = new int[MAJOR_RULES];
        /** For each course a bit for each slot for which it counts. */
        final int[] fits = new int[MOST_COURSES];

        // A match that is being made: how much each slot may get, what it got, and which slot got a course.
        final int[] room = new int[MAJOR_RULES];
        final int[] got = new int[MAJOR_RULES];
        final int[] givenTo = new int[MOST_COURSES];

        // A search for a slot with room: the slots in the order found, and the course that would come into each.
        final int[] found = new int[MAJOR_RULES];
        final int[] comer = new int[MAJOR_RULES];

        /** Whether some match gives the slots the counts that a number holds. */
        final boolean[] canGive = new boolean[MOST_TRIALS];

        void open(ArrayList<Rule> rules, Student student, boolean withTerm) {
            slots = 0;
            Arrays.fill(fits, 0);
            for (int number = 0; number < rules.size(); number++) {
                Rule rule = rules.get(number);
                if (rule.major == student.major && slots < MAJOR_RULES) {
                    numbers[slots] = number;
                    needs[slots] = rule.need;
                    noteFits(rule, student, withTerm);
                    slots++;
                }
            }
        }

        private void noteFits(Rule rule, Student student, boolean withTerm) {
            for (int course = 0; course < MOST_COURSES; course++) {
                int best = withTerm && student.taking[course] ? TOP_MARK : student.best[course];
                if (rule.allowed[course] && best >= PASS_MARK && best >= rule.mark) {
                    fits[course] |= 1 << slots;
                }
            }
        }

        private boolean isFit(int course, int slot) {
            return (fits[course] >> slot & 1) != 0;
        }

        int allNeeds() {
            int sum = 0;
            for (int slot = 0; slot < slots; slot++) {
                sum += needs[slot];
            }
            return sum;
        }

        int giveAll() {
            System.arraycopy(needs, 0, room, 0, MAJOR_RULES);
            return giveFrom(0);
        }

        /** Gives one course after another, from this one on, as far as the room allows, and counts them. */
        private int giveFrom(int firstCourse) {
            Arrays.fill(givenTo, NOTHING);
            Arrays.fill(got, 0);
            int count = 0;
            for (int course = firstCourse; course < MOST_COURSES; course++) {
                if (fits[course] != 0 && give(course)) {
                    count++;
                }
            }
            return count;
        }

        private boolean give(int course) {
            Arrays.fill(comer, NOTHING);
            int length = findSlotsFor(course, 0);
            for (int at = 0; at < slots && at < length; at++) {
                int slot = found[at];
                if (got[slot] < room[slot]) {
                    handOn(slot);
                    return true;
                }
                for (int other = 0; other < MOST_COURSES; other++) {
                    if (givenTo[other] == slot) {
                        length = findSlotsFor(other, length);
                    }
                }
            }
            return false;
        }

        private int findSlotsFor(int course, int lengthBefore) {
            int length = lengthBefore;
            for (int slot = 0; slot < slots; slot++) {
                if (isFit(course, slot) && comer[slot] == NOTHING && length < MAJOR_RULES) {
                    comer[slot] = course;
                    found[length] = slot;
                    length++;
                }
            }
            return length;
        }

        /** Each slot on the way back hands its course on and takes the one that comes; only the last grows. */
        private void handOn(int lastSlot) {
            got[lastSlot]++;
            int slot = lastSlot;
            for (int step = 0; step < slots && slot != NOTHING; step++) {
                int course = comer[slot];
                int before = givenTo[course];
                givenTo[course] = slot;
                slot = before;
            }
        }

        /** After giveAll(): a short rule can take a course that it wants from another, which is short then. */
        int shortRules() {
            int shorts = 0;
            for (int slot = 0; slot < slots; slot++) {
                if (got[slot] < needs[slot]) {
                    shorts |= 1 << slot;
                }
            }
            for (int round = 0; round < slots; round++) {
                for (int course = 0; course < MOST_COURSES; course++) {
                    if (givenTo[course] != NOTHING && (fits[course] & shorts) != 0) {
                        shorts |= 1 << givenTo[course];
                    }
                }
            }
            return ruleBits(shorts);
        }

        private int ruleBits(int slotBits) {
            int bits = 0;
            for (int slot = 0; slot < slots; slot++) {
                if ((slotBits >> slot & 1) != 0) {
                    bits |= 1 << numbers[slot];
                }
            }
            return bits;
        }

        /** Tries all matches, those alike that give each slot as many courses, and answers the most courses. */
        int tryAll() {
            canGive[0] = true;
            for (int counts = 1; counts < trials(); counts++) {
                canGive[counts] = false;
            }
            for (int course = 0; course < MOST_COURSES; course++) {
                if (fits[course] != 0) {
                    tryCourse(course);
                }
            }
            return mostTried(NOTHING);
        }

        private int trials() {
            return 1 << COUNT_BITS * slots;
        }

        /** Goes down, so that no match that has this course already is given it again. */
        private void tryCourse(int course) {
            for (int counts = trials() - 1; counts >= 0; counts--) {
                for (int slot = 0; slot < slots && canGive[counts]; slot++) {
                    if (isFit(course, slot) && countIn(counts, slot) < needs[slot]) {
                        canGive[counts + (1 << COUNT_BITS * slot)] = true;
                    }
                }
            }
        }

        private static int countIn(int counts, int slot) {
            return counts >> COUNT_BITS * slot & COUNT_MASK;
        }

        /** After tryAll(): the most courses of a match, one slot (or NOTHING) needing one course less. */
        private int mostTried(int lesserSlot) {
            int most = 0;
            for (int counts = 0; counts < trials(); counts++) {
                boolean isAllowed = lesserSlot == NOTHING || countIn(counts, lesserSlot) < needs[lesserSlot];
                if (canGive[counts] && isAllowed) {
                    most = Math.max(most, sumOf(counts));
                }
            }
            return most;
        }

        private int sumOf(int counts) {
            int sum = 0;
            for (int slot = 0; slot < slots; slot++) {
                sum += countIn(counts, slot);
            }
            return sum;
        }

        int shortRulesByTrial(int most) {
            int shorts = 0;
            for (int slot = 0; slot < slots; slot++) {
                if (mostTried(slot) == most) {
                    shorts |= 1 << slot;
                }
            }
            return ruleBits(shorts);
        }

        int firstBestRule(int course) {
            int left = giveAll();
            int slot = NOTHING;
            for (int at = 0; at <= course; at++) {
                slot = firstBestSlot(at, left);
                if (slot != NOTHING) {
                    room[slot]--;
                    left--;
                }
            }
            return slot == NOTHING ? NOTHING : numbers[slot];
        }

        /** The first slot that leaves this many courses, with this one, to be given from here on. */
        private int firstBestSlot(int course, int left) {
            for (int slot = 0; slot < slots; slot++) {
                if (isFit(course, slot) && room[slot] > 0) {
                    room[slot]--;
                    boolean isBest = 1 + giveFrom(course + 1) == left;
                    room[slot]++;
                    if (isBest) {
                        return slot;
                    }
                }
            }
            return NOTHING;
        }
    }

    private static final class Transcript {
        /** For each course its number, '=', a 'T' and three marks with three ',' between them, and ';'. */
        private static final int MOST_CHARACTERS = MOST_COURSES * (2 + 1 + 13 + 1);

        final char[] text = new char[MOST_CHARACTERS];
        int length;

        void write(Student student, int courses) {
            length = 0;
            for (int course = 0; course < courses; course++) {
                if (student.movedIn[course] || student.tries[course] > 0) {
                    putNumber(course);
                    put('=');
                    putEntries(student, course);
                    put(';');
                }
            }
        }

        private void putEntries(Student student, int course) {
            if (student.movedIn[course]) {
                put('T');
            }
            for (int attempt = 0; attempt < student.tries[course]; attempt++) {
                if (attempt > 0 || student.movedIn[course]) {
                    put(',');
                }
                int mark = student.tried[course][attempt];
                if (mark == NOTHING) {
                    put('W');
                } else {
                    putNumber(mark);
                }
            }
        }

        private void putNumber(int number) {
            if (number >= 100) {
                put((char) ('0' + number / 100 % 10));
            }
            if (number >= 10) {
                put((char) ('0' + number / 10 % 10));
            }
            put((char) ('0' + number % 10));
        }

        private void put(char sign) {
            if (length < MOST_CHARACTERS) {
                text[length] = sign;
                length++;
            }
        }
    }
}
