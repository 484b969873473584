import java.io.IOException;
import java.lang.annotation.Retention;
import java.lang.annotation.RetentionPolicy;
import java.lang.reflect.InvocationTargetException;
import java.lang.reflect.Method;
import java.nio.file.Files;
import java.nio.file.Path;
import java.util.ArrayList;
import java.util.Arrays;
import java.util.Comparator;
import java.util.List;
import java.util.NoSuchElementException;

/**
 * What the tests of edges have in common: one test for each sentence of the document that names an edge (too small,
 * too large, empty, full, going round, refused). Each test tells the words that it is for, and both sides of their
 * edge. Breaks shows that each of them fails when its words are broken.
 */
abstract class Edge {
    /** The words of the document that a test is for; promise 0 stands for the sections ahead of promise 1. */
    @Retention(RetentionPolicy.RUNTIME)
    @interface Says {
        int promise();

        String value();
    }

    static final String IO = "IndexOutOfBoundsException";
    static final String IA = "IllegalArgumentException";
    static final String IS = "IllegalStateException";
    static final String NS = "NoSuchElementException";
    static final String UN = "UnsupportedOperationException";
    static final String AR = "ArithmeticException";

    static final int LEAST = Integer.MIN_VALUE;
    static final int MOST = Integer.MAX_VALUE;

    private static final List<String> wrong = new ArrayList<>();

    interface Call {
        Object get();
    }

    static Object told(Call call) {
        try {
            return call.get();
        } catch (IndexOutOfBoundsException | IllegalArgumentException | IllegalStateException
                | NoSuchElementException | UnsupportedOperationException | ArithmeticException e) {
            return e.getClass().getSimpleName();
        }
    }

    static void due(Object want, Call call) {
        Object got = told(call);
        if (!want.equals(got)) {
            wrong.add("answered " + got + ", due is " + want + " at " + new Throwable().getStackTrace()[1]);
        }
    }

    // ------------------------------------------------------------------ what the tests build on

    /** Type 0: z is constructor 0, s(0) is 1. */
    static ModedMill numbers() {
        ModedMill m = new ModedMill();
        m.addType();
        m.addConstructor(0, -1, -1);
        m.addConstructor(0, 0, -1);
        return m;
    }

    /** Numbers, and type 1: nil is constructor 2, cons(0, 1) is 3. */
    static ModedMill lists() {
        ModedMill m = numbers();
        m.addType();
        m.addConstructor(1, -1, -1);
        m.addConstructor(1, 0, 1);
        return m;
    }

    /** Numbers, and pair(0, 0) is constructor 2, of type 0, too. */
    static ModedMill pairs() {
        ModedMill m = numbers();
        m.addConstructor(0, 0, 0);
        return m;
    }

    /** A predicate; each mode is a text: its inputs as a number, then its promise. */
    static int predicate(ModedMill m, int first, int second, int third, String... modes) {
        int p = m.addPredicate(first, second, third);
        for (String mode : modes) m.addMode(p, mode.charAt(0) - '0', mode.charAt(1));
        return p;
    }

    /** A goal as a text: build x c y z, same x y, call p x y z, deny p x y z; zeros at the end may be left out. */
    static int goal(ModedMill m, int clause, String text) {
        String[] words = text.split(" ");
        int[] n = new int[4];
        for (int i = 1; i < words.length; i++) n[i - 1] = Integer.parseInt(words[i]);
        switch (words[0]) {
            case "build": return m.addBuild(clause, n[0], n[1], n[2], n[3]);
            case "same": return m.addSame(clause, n[0], n[1]);
            case "call": return m.addCall(clause, n[0], n[1], n[2], n[3], false);
            case "deny": return m.addCall(clause, n[0], n[1], n[2], n[3], true);
            default: throw new Error(text);
        }
    }

    static int clause(ModedMill m, int predicate, String... goals) {
        int c = m.addClause(predicate);
        for (String text : goals) goal(m, c, text);
        return c;
    }

    /** Predicates without arguments; a clause is a text: its predicate, then those it calls, with - those it denies. */
    static ModedMill bare(int predicates, String... clauses) {
        ModedMill m = new ModedMill();
        for (int p = 0; p < predicates; p++) predicate(m, -1, -1, -1, "0n");
        for (String text : clauses) {
            int c = m.addClause(text.charAt(0) - '0');
            for (int i = 1; i < text.length(); i++) {
                boolean denied = text.charAt(i) == '-';
                if (denied) i++;
                m.addCall(c, text.charAt(i) - '0', 0, 0, 0, denied);
            }
        }
        m.compile();
        return m;
    }

    /** The term s(s(..z)) of numbers. */
    static int number(ModedMill m, int n) {
        int t = m.term(0, 0, 0);
        for (int i = 0; i < n; i++) t = m.term(1, t, 0);
        return t;
    }

    /** The order of a clause for a mode, with the chosen modes behind a colon. */
    static String order(ModedMill m, int clause, int mode) {
        StringBuilder all = new StringBuilder();
        for (int i = 0; i < 6; i++) {
            int place = i;
            Object goal = told(() -> m.goalAt(clause, mode, place));
            if (goal.equals(NS)) break;
            Object chosen = told(() -> m.chosenAt(clause, mode, place));
            all.append(goal).append(chosen.equals(NS) ? "" : ":" + chosen).append(' ');
        }
        return all.toString().trim();
    }

    static String record(ModedMill m) {
        StringBuilder all = new StringBuilder();
        for (int i = 0; i < m.recorded(); i++) all.append(m.recordAt(i)).append(m.whereAt(i)).append(' ');
        return all.toString().trim();
    }

    /** The answers of the last question, with as many arguments as are told. */
    static String answers(ModedMill m, int arguments) {
        StringBuilder all = new StringBuilder();
        for (int a = 0; told(answerCall(m, a)) instanceof Integer; a++) {
            for (int i = 0; i < arguments; i++) all.append(i > 0 ? "," : "").append(m.answerAt(a, i));
            all.append(' ');
        }
        return all.toString().trim();
    }

    private static Call answerCall(ModedMill m, int answer) {
        return () -> m.multiplicity(answer);
    }

    /** Asks, and tells the number of answers, the ending, the steps and the choice points. */
    static String asked(ModedMill m, int predicate, int mode, int first, int second, int third) {
        int count = m.ask(predicate, mode, first, second, third);
        return count + " " + m.ending() + " " + m.steps() + " " + m.choicePoints();
    }

    static String found(ModedMill m, int predicate) {
        return "" + m.found(predicate, 0);
    }

    /** What a look tells of the latest terms, of modes and of the last question, in few calls. */
    static String look(ModedMill m, int predicates) {
        StringBuilder all = new StringBuilder();
        int terms = m.terms();
        for (int t = Math.max(0, terms - 4); t <= terms; t++) {
            int term = t;
            all.append(told(() -> m.constructorOf(term)));
            all.append(told(() -> m.partOf(term, 0))).append(told(() -> m.partOf(term, 1)));
        }
        for (int p = 0; p < predicates; p++) {
            for (int mode = 0; mode < 2; mode++) {
                int q = p;
                int k = mode;
                all.append(told(() -> m.fault(q, k))).append(told(() -> m.found(q, k)));
                all.append(told(() -> m.switchOf(q, k)));
            }
        }
        for (Call call : looks(m)) all.append(told(call)).append(' ');
        return all.toString();
    }

    /** What tells of the last question. */
    static Call[] looks(ModedMill m) {
        return new Call[] {m::ending, () -> m.answerAt(0, 0), () -> m.multiplicity(0), m::answersByBreadth, m::steps,
            m::choicePoints, m::deepest, m::recorded, () -> m.recordAt(0), () -> m.whereAt(0)};
    }

    /** append as predicate 0, with the modes (in, in, out) and (out, out, in). */
    static ModedMill append() {
        ModedMill m = lists();
        predicate(m, 1, 1, 1, "3d", "4m");
        clause(m, 0, "build 0 2", "same 1 2");
        clause(m, 0, "build 0 3 3 4", "call 0 4 1 5", "build 2 3 3 5");
        return m;
    }

    /** Predicate 1 answers z, s(z) and s(s(z)), which are the terms 0, 1 and 2; 0 denies 1 for its input. */
    static ModedMill denying() {
        ModedMill m = numbers();
        predicate(m, 0, -1, -1, "1n");
        predicate(m, 0, -1, -1, "0n");
        clause(m, 0, "deny 1 0");
        clause(m, 1, "build 0 0");
        clause(m, 1, "build 3 0", "build 0 1 3");
        clause(m, 1, "build 3 0", "build 4 1 3", "build 0 1 4");
        m.compile();
        number(m, 3);
        return m;
    }

    /** Predicate 0 goes one call deeper for each s of its input. */
    static ModedMill counting() {
        ModedMill m = numbers();
        predicate(m, 0, -1, -1, "1d");
        clause(m, 0, "build 0 0");
        clause(m, 0, "build 0 1 1", "call 0 1");
        m.compile();
        return m;
    }

    /** Fifty answers for predicate 0: 32, 16 and 2. */
    static final String[] FIFTY = {"1", "1", "011111", "01111", "01"};

    static String[] with(String[] clauses, String... more) {
        String[] all = Arrays.copyOf(clauses, clauses.length + more.length);
        System.arraycopy(more, 0, all, clauses.length, more.length);
        return all;
    }

    // ------------------------------------------------------------------ all tests of a class, one by one

    static List<Method> tests(Class<?> of) {
        List<Method> tests = new ArrayList<>();
        for (Method method : of.getDeclaredMethods()) {
            if (method.getAnnotation(Says.class) != null) tests.add(method);
        }
        tests.sort(Comparator.comparing(Method::getName));
        return tests;
    }

    /** What is wrong in a test, or nothing. */
    static List<String> wrongIn(Method test) {
        wrong.clear();
        try {
            test.invoke(null);
        } catch (IllegalAccessException | InvocationTargetException e) {
            Throwable cause = e.getCause();
            StackTraceElement[] trace = cause.getStackTrace();
            wrong.add("throws " + cause + (trace.length > 0 ? " at " + trace[0] : ""));
        }
        return new ArrayList<>(wrong);
    }

    /** The names of all tests of a class. */
    static String[] names(Class<?> of) {
        return tests(of).stream().map(Method::getName).toArray(String[]::new);
    }

    /** Whether a test of a class fails. */
    static boolean fails(Class<?> of, String name) {
        return tests(of).stream().anyMatch(test -> test.getName().equals(name) && !wrongIn(test).isEmpty());
    }

    /** The text of the document with single spaces: section 0 is all that stands ahead of promise 1. */
    static String[] sections() throws IOException {
        String[] sections = Files.readString(Path.of("../shared/DOC.md")).split("\n## Promise \\d+: ");
        for (int i = 0; i < sections.length; i++) sections[i] = sections[i].replaceAll("\\s+", " ");
        return sections;
    }

    /** The tests whose words do not stand in the document. */
    static int wrongWords(Class<?> of) throws IOException {
        String[] sections = sections();
        int count = 0;
        for (Method test : tests(of)) {
            Says says = test.getAnnotation(Says.class);
            if (says.promise() >= sections.length || !sections[says.promise()].contains(says.value())) {
                System.out.println(test.getName() + ": promise " + says.promise() + " does not say: " + says.value());
                count++;
            }
        }
        return count;
    }

    /** Runs all tests of a class; what is missed counts as wrong. */
    static void run(Class<?> of, int missed) throws IOException {
        int count = missed + wrongWords(of);
        for (Method test : tests(of)) {
            Says says = test.getAnnotation(Says.class);
            for (String what : wrongIn(test)) {
                count++;
                System.out.println(test.getName() + " (promise " + says.promise() + ": " + says.value() + "): " + what);
            }
        }
        System.out.println(count == 0 ? tests(of).size() + " edges hold" : count + " edges do not hold");
        if (count != 0) System.exit(1);
    }
}
