import java.lang.reflect.InvocationTargetException;
import java.lang.reflect.Method;
import java.util.ArrayList;
import java.util.HashMap;
import java.util.List;
import java.util.Map;
import java.util.TreeMap;

/** Runs of calls, drawn from fixed seeds, on Prereqs and on NaiveOffice; all answers must be the same. */
public final class RandomRunsTest {
    private static final int CALLS = 330;

    /** A method, the kinds of its arguments (a letter each, see draw) and how often it is drawn. */
    private static final String[] PLAN = {
        "addCourse CS 3", "addStudent M 3", "changeMajor sM 4", "majorOf s 1", "reserve cMR 6",
        "markFormula ck 3", "togetherFormula c 4", "creditsFormula q 2", "allFormula ff 3", "anyFormula ff 3",
        "twoFormula fff 3", "noneFormula f 3", "holds sf 8", "require cf 8", "lift c 2", "pass d 14", "day - 1",
        "term - 1", "enroll sc 60", "outcome sc 12", "drop sc 14", "swap scc 16", "mark sck 25", "endTerm - 5",
        "moveIn sc 4", "bestMark sc 3", "attempts sc 3", "earnedCredits s 2", "allEarned - 1", "average s 3",
        "load s 3", "isEnrolled sc 6", "enrolled c 4", "waiting c 4", "placeOf sc 5", "freeSeats cM 6",
        "share c 2", "whyNot sc 8", "whyLong sc 5", "termsTo c 3", "transcriptLength s 3", "transcriptAt si 6",
        "addRule Mnk 3", "allow rc 8", "mostMet s 3", "mostMetByTrial s 3", "mostMetIf s 3", "lackingRules s 3",
        "lackingByTrial s 3", "ruleFor sc 6", "setDegree Mq 2", "canGraduate s 3", "isSound - 3",
    };

    private final Map<String, Method> real = methodsOf(Prereqs.class);
    private final Map<String, Method> naive = methodsOf(NaiveOffice.class);
    private final List<String[]> urn = new ArrayList<>();
    private final Map<String, Integer> seen = new HashMap<>();
    private final List<String> told = new ArrayList<>();
    private long seed;
    private int wrong = 0;

    private Prereqs office;
    private NaiveOffice oracle;
    private int courses;
    private int students;
    private int formulas;
    private int rules;
    private int mostCourses;
    private int leastCredits;
    private int mostSeats;
    private int leastStudents;
    private int mostCredits;
    private boolean isHasty;
    private boolean isStudious;

    private RandomRunsTest() {
        for (String line : PLAN) {
            String[] words = line.split(" ");
            for (int i = 0; i < Integer.parseInt(words[2]); i++) {
                urn.add(words);
            }
        }
    }

    private static Map<String, Method> methodsOf(Class<?> owner) {
        Map<String, Method> methods = new HashMap<>();
        for (Method method : owner.getDeclaredMethods()) {
            methods.put(method.getName(), method);
        }
        return methods;
    }

    private int next(int bound) {
        seed = seed * 6364136223846793005L + 1442695040888963407L;
        return (int) ((seed >>> 33) % bound);
    }

    /** A number below the count, or now and then one beyond its ends. */
    private int below(int count) {
        int number = next(40);
        if (number == 0 || count == 0) {
            int[] beyond = {-1, count, Integer.MIN_VALUE, Integer.MAX_VALUE, count + 1};
            return beyond[next(beyond.length)];
        }
        return next(count);
    }

    private int within(int least, int most) {
        return least == 0 ? below(most + 1) : 1 + below(most);
    }

    private int draw(char kind) {
        int[] marks = {0, 1, 30, 49, 50, 51, 60, 75, 90, 99, 100, next(101), 50 + next(51), -1, 101};
        switch (kind) {
            case 'C': return Math.max(leastCredits, within(1, mostCredits));
            case 'S': return within(1, mostSeats);
            case 'M': return within(0, 3);
            case 's': return below(students);
            case 'c': return below(courses);
            case 'f': return below(formulas);
            case 'r': return below(rules);
            case 'R': return next(20) == 0 ? Integer.MAX_VALUE - next(3) : next(5) - (next(15) == 0 ? 1 : 0);
            case 'k': return marks[next(marks.length)];
            case 'q': return next(4) == 0 ? within(0, 120) : next(25);
            case 'd': return next(10) == 0 ? next(34) - 1 : 1 + next(2);
            case 'n': return within(1, 3);
            default: return next(3) == 0 ? next(60) : next(12) - 1;
        }
    }

    private static Object answerOf(Object office, Method method, Object[] arguments) {
        try {
            return method.invoke(office, arguments);
        } catch (InvocationTargetException thrown) {
            Throwable cause = thrown.getCause();
            return office instanceof Prereqs ? Check.nameOf(cause) : cause.getClass().getSimpleName();
        } catch (IllegalAccessException impossible) {
            throw new IllegalStateException(impossible);
        }
    }

    private Object call(String name, Object... arguments) {
        Object due = answerOf(oracle, naive.get(name), arguments);
        Object got = answerOf(office, real.get(name), arguments);
        told.add(name + List.of(arguments) + " = " + got);
        String kind = due instanceof String || due instanceof Character ? due.toString() : "answers";
        seen.merge(name + " " + kind, 1, Integer::sum);
        if (!due.equals(got)) {
            wrong++;
            if (wrong <= 3) {
                told.forEach(System.out::println);
                System.out.println("  due is " + due);
            }
        }
        return due;
    }

    private void drawCall() {
        String[] words = urn.get(next(urn.size()));
        String kinds = words[1].equals("-") ? "" : words[1];
        Object[] arguments = new Object[kinds.length()];
        for (int i = 0; i < arguments.length; i++) {
            arguments[i] = draw(kinds.charAt(i));
        }
        if (List.of("drop", "swap", "mark").contains(words[0])) {
            preferEnrolled(arguments);
        }
        boolean isMoreThanPlanned = words[0].equals("addCourse") && courses >= mostCourses
                || words[0].equals("addStudent") && isHasty;
        if (isMoreThanPlanned && next(8) != 0) {
            return;
        }
        note(words[0], call(words[0], arguments));
    }

    /** Most pairs of a student and a course have nothing to drop. */
    private void preferEnrolled(Object[] arguments) {
        for (int i = 0; i < 6 && students > 0 && courses > 0; i++) {
            int student = next(students);
            int course = next(courses);
            if (oracle.isEnrolled(student, course)) {
                arguments[0] = student;
                arguments[1] = course;
                return;
            }
        }
    }

    /** Keeps a run from lingering in the days on which little can happen. */
    private boolean moveOn() {
        int day = oracle.day();
        if (day >= 21 && next(isHasty ? 5 : 20) == 0) {
            call("endTerm");
            return true;
        }
        boolean isLate = day > 5 && day < 21;
        if (isLate && next(isHasty ? 3 : 12) == 0 || isHasty && day <= 5 && next(12) == 0) {
            call("pass", next(2) == 0 ? 21 - day : 3);
            return true;
        }
        return false;
    }

    private void note(String name, Object answer) {
        if (!(answer instanceof Integer)) {
            return;
        }
        courses += name.equals("addCourse") ? 1 : 0;
        students += name.equals("addStudent") ? 1 : 0;
        formulas += name.endsWith("Formula") ? 1 : 0;
        rules += name.equals("addRule") ? 1 : 0;
    }

    private void begin(long run) {
        seed = run * 7919L + 17L;
        told.clear();
        office = new Prereqs();
        oracle = new NaiveOffice();
        courses = 0;
        students = 0;
        formulas = 0;
        rules = 0;
        setProfile((int) (run % 7));
    }

    /** Some cases come only where loads are heavy, where lists are long, or where terms fly by. */
    private void setProfile(int profile) {
        boolean isCrowded = profile == 1;
        boolean isHeavy = profile == 2;
        isHasty = profile == 3;
        isStudious = profile == 5;
        boolean isFull = profile == 6;
        mostCourses = isFull ? 20 : isHasty ? 3 : isCrowded ? 2 + next(2) : isHeavy ? 9 : 3 + next(6);
        leastCredits = isHeavy ? 3 : Integer.MIN_VALUE;
        mostCredits = isStudious ? 2 : 6;
        mostSeats = isCrowded ? 1 : profile == 4 ? 2 : 12;
        leastStudents = isCrowded || isFull ? 12 : isHasty ? 3 : 2;
    }

    private void setUp() {
        for (int i = 0; i < mostCourses; i++) {
            note("addCourse", call("addCourse", draw('C'), draw('S')));
        }
        int first = leastStudents + next(isHasty ? 1 : 5);
        for (int i = 0; i < first; i++) {
            note("addStudent", call("addStudent", next(next(4) + 1)));
        }
        for (int i = 0; i < next(6); i++) {
            note("addRule", call("addRule", next(next(4) + 1), draw('n'), draw('k')));
        }
        for (int i = 0; i < 2 * rules; i++) {
            call("allow", draw('r'), draw('c'));
        }
    }

    /** Best matches differ only where many rules want the same passed courses. */
    private void studyAndAudit() {
        for (int rule = 0; rule < 6; rule++) {
            note("addRule", call("addRule", next(2), 1 + next(3), next(2) * 60));
        }
        for (int student = 0; student < students; student++) {
            call("changeMajor", student, next(2));
            for (int course = 0; course < courses; course++) {
                call(next(4) == 0 ? "moveIn" : "enroll", student, course);
            }
        }
        for (int rule = 0; rule < rules; rule++) {
            for (int i = 0; i < 4; i++) {
                call("allow", rule, next(courses));
            }
        }
        call("pass", 21);
        for (int i = 0; i < 30; i++) {
            call("mark", next(students), next(courses), 40 + next(61));
        }
        call("endTerm");
        for (int student = 0; student < Math.min(4, students); student++) {
            call("enroll", student, next(courses));
            for (String name : List.of("mostMet", "mostMetByTrial", "mostMetIf", "lackingByTrial", "canGraduate")) {
                call(name, student);
            }
            for (int course = 0; course < courses; course++) {
                call("ruleFor", student, course);
            }
        }
    }

    private void lookAtAll() {
        for (int student = 0; student < students; student++) {
            for (String name : List.of("load", "earnedCredits", "transcriptLength", "mostMet", "lackingRules")) {
                call(name, student);
            }
            for (int course = 0; course < Math.min(courses, 5); course++) {
                call("isEnrolled", student, course);
            }
        }
        call("isSound");
    }

    private void run(long number) {
        begin(number);
        setUp();
        if (isStudious) {
            studyAndAudit();
        }
        while (told.size() < CALLS) {
            if (!moveOn()) {
                drawCall();
            }
        }
        lookAtAll();
    }

    /** A run that never meets a case tells nothing of it, so the cases that were met are asked for. */
    private void checkReach() {
        String[] cases = {
            "enroll e", "enroll w", "enroll IndexOutOfBoundsException", "enroll IllegalStateException",
            "enroll IllegalArgumentException", "enroll UnsupportedOperationException",
            "enroll ArithmeticException", "enroll NoSuchElementException",
            "outcome d", "outcome i", "outcome r", "outcome a", "outcome c", "outcome e", "outcome f", "outcome w",
            "drop l", "drop d", "drop w", "drop NoSuchElementException", "drop IllegalStateException",
            "swap answers", "swap IndexOutOfBoundsException", "swap IllegalStateException",
            "swap NoSuchElementException", "swap IllegalArgumentException",
            "swap UnsupportedOperationException", "swap ArithmeticException",
            "mark answers", "mark IllegalArgumentException", "mark IllegalStateException",
            "whyNot answers", "whyNot NoSuchElementException", "whyNot IllegalStateException",
            "termsTo answers", "termsTo NoSuchElementException", "ruleFor answers",
            "moveIn ArithmeticException", "average answers", "twoFormula answers", "reserve IllegalStateException",
        };
        for (String met : cases) {
            if (seen.getOrDefault(met, 0) < 20) {
                wrong++;
                System.out.println("met too seldom: " + met + " " + seen.get(met));
            }
        }
    }

    public static void main(String[] arguments) {
        int runs = arguments.length > 0 ? Integer.parseInt(arguments[0]) : 3000;
        RandomRunsTest test = new RandomRunsTest();
        for (int run = 0; run < runs; run++) {
            test.run(run);
        }
        test.checkReach();
        if (arguments.length > 0) {
            System.out.println(new TreeMap<>(test.seen));
        }
        System.out.println(runs + " random runs, " + test.wrong + " wrong answers");
        System.exit(test.wrong == 0 ? 0 : 1);
    }
}
