import java.util.NoSuchElementException;

/** One part for each promise of the document: ordinary calls, the edges that it names, and wrong calls. */
public final class Promises {
    private static final String IO = "IndexOutOfBoundsException";
    private static final String IA = "IllegalArgumentException";
    private static final String IS = "IllegalStateException";
    private static final String NS = "NoSuchElementException";
    private static final String UN = "UnsupportedOperationException";
    private static final String AR = "ArithmeticException";

    private static int wrong = 0;

    interface Call {
        Object get();
    }

    static void due(int promise, Object want, Call call) {
        Object got;
        try {
            got = call.get();
        } catch (IndexOutOfBoundsException | IllegalArgumentException | IllegalStateException
                | NoSuchElementException | UnsupportedOperationException | ArithmeticException e) {
            got = e.getClass().getSimpleName();
        }
        if (!want.equals(got)) {
            wrong++;
            System.out.println("promise " + promise + ": answered " + got + ", due is " + want + " at "
                    + new Throwable().getStackTrace()[1]);
        }
    }

    /** Type 0: z, s(0). Type 1: nil, cons(0, 1). */
    static ModedMill lists() {
        ModedMill m = new ModedMill();
        m.addType();
        m.addType();
        m.addConstructor(0, -1, -1);
        m.addConstructor(0, 0, -1);
        m.addConstructor(1, -1, -1);
        m.addConstructor(1, 0, 1);
        return m;
    }

    static int number(ModedMill m, int n) {
        int t = m.term(0, 0, 0);
        for (int i = 0; i < n; i++) t = m.term(1, t, 0);
        return t;
    }

    /** append as predicate 0, with the modes (in, in, out) and (out, out, in). */
    static ModedMill append() {
        ModedMill m = lists();
        m.addPredicate(1, 1, 1);
        m.addMode(0, 3, 'd');
        m.addMode(0, 4, 'm');
        m.addClause(0);
        m.addBuild(0, 0, 2, 0, 0);
        m.addSame(0, 1, 2);
        m.addClause(0);
        m.addBuild(1, 0, 3, 3, 4);
        m.addCall(1, 0, 4, 1, 5, false);
        m.addBuild(1, 2, 3, 3, 5);
        return m;
    }

    /** Predicates without arguments; a clause is a text with the numbers of the predicates it calls. */
    static ModedMill bare(int predicates, String... clauses) {
        ModedMill m = new ModedMill();
        for (int p = 0; p < predicates; p++) {
            m.addPredicate(-1, -1, -1);
            m.addMode(p, 0, 'n');
        }
        for (String clause : clauses) {
            int c = m.addClause(clause.charAt(0) - '0');
            for (int i = 1; i < clause.length(); i++) {
                boolean denied = clause.charAt(i) == '-';
                if (denied) i++;
                m.addCall(c, clause.charAt(i) - '0', 0, 0, 0, denied);
            }
        }
        m.compile();
        return m;
    }

    static String record(ModedMill m) {
        StringBuilder all = new StringBuilder();
        for (int i = 0; i < m.recorded(); i++) all.append(m.recordAt(i)).append(m.whereAt(i)).append(' ');
        return all.toString().trim();
    }

    static void types() {
        ModedMill m = new ModedMill();
        due(1, 0, m::terms);
        due(1, IS, m::open);
        due(1, IO, () -> m.addConstructor(0, -1, -1));
        due(1, IO, () -> m.addMode(0, 0, 'n'));
        due(1, AR, m::meanSteps);
        due(1, NS, m::ending);
        due(2, 0, m::addType);
        due(2, 1, m::addType);
        due(2, 2, m::addType);
        due(2, IS, m::addType);
        due(3, IO, () -> m.addConstructor(3, -1, -1));
        due(3, IO, () -> m.addConstructor(-1, -1, -1));
        due(3, IO, () -> m.addConstructor(0, 3, -1));
        due(3, IO, () -> m.addConstructor(0, -2, -1));
        due(3, IO, () -> m.addConstructor(0, -1, 3));
        due(3, IA, () -> m.addConstructor(0, -1, 0));
        for (int i = 0; i < 10; i++) {
            int due = i;
            due(3, due, () -> m.addConstructor(due % 3, due < 3 ? -1 : 0, due < 6 ? -1 : 1));
        }
        due(3, IS, () -> m.addConstructor(0, -1, -1));
        due(3, IA, () -> m.addConstructor(0, -1, 0));
        ModedMill n = new ModedMill();
        n.addType();
        n.addConstructor(0, -1, -1);
        n.compile();
        due(2, IS, n::addType);
        due(3, IS, () -> n.addConstructor(0, -1, -1));
        due(3, IO, () -> n.addConstructor(1, -1, -1));
        due(4, 0, () -> n.term(0, 0, 0));
        n.open();
        due(2, 1, n::addType);
        due(3, 1, () -> n.addConstructor(1, -1, -1));
    }

    static void terms() {
        ModedMill m = lists();
        due(4, IO, () -> m.term(-1, 0, 0));
        due(4, IO, () -> m.term(4, 0, 0));
        due(4, IO, () -> m.term(1, 0, 0));
        due(4, IA, () -> m.term(0, 1, 0));
        due(4, IA, () -> m.term(0, 0, 1));
        due(4, 0, () -> m.term(0, 0, 0));
        due(4, 0, () -> m.term(0, 0, 0));
        due(4, 1, () -> m.term(2, 0, 0));
        due(4, IA, () -> m.term(1, 1, 0));
        due(4, IA, () -> m.term(1, 0, 1));
        due(4, IO, () -> m.term(1, 2, 1));
        due(4, IO, () -> m.term(3, 0, 2));
        due(4, IO, () -> m.term(3, -1, 1));
        due(4, IA, () -> m.term(3, 0, 0));
        due(4, IA, () -> m.term(3, 1, 1));
        due(4, 2, () -> m.term(3, 0, 1));
        due(33, 3, m::terms);
        due(5, 3, () -> m.constructorOf(2));
        due(5, 0, () -> m.constructorOf(0));
        due(5, IO, () -> m.constructorOf(3));
        due(5, IO, () -> m.constructorOf(-1));
        due(6, 0, () -> m.partOf(2, 0));
        due(6, 1, () -> m.partOf(2, 1));
        due(6, NS, () -> m.partOf(2, 2));
        due(6, NS, () -> m.partOf(2, -1));
        due(6, NS, () -> m.partOf(0, 0));
        due(6, IO, () -> m.partOf(3, 0));
        due(6, IO, () -> m.partOf(-1, 7));
        due(7, 1L, () -> m.sizeOf(0));
        due(7, 3L, () -> m.sizeOf(2));
        due(7, IO, () -> m.sizeOf(3));
        due(7, IO, () -> m.sizeOf(-1));
        m.term(1, 0, 0);
        due(6, NS, () -> m.partOf(3, 1));
        due(6, 0, () -> m.partOf(3, 0));
        due(7, 2L, () -> m.sizeOf(3));
        due(4, 4, () -> m.term(3, 3, 2));
        due(7, 6L, () -> m.sizeOf(4));
    }

    static void manyTerms() {
        ModedMill m = new ModedMill();
        m.addType();
        m.addConstructor(0, -1, -1);
        m.addConstructor(0, 0, 0);
        m.term(0, 0, 0);
        for (int i = 0; i < 199; i++) m.term(1, i, i);
        due(33, 200, m::terms);
        due(4, IS, () -> m.term(1, 0, 5));
        due(4, 7, () -> m.term(1, 6, 6));
        due(4, IO, () -> m.term(1, 0, 200));
        due(7, (1L << 63) - 1, () -> m.sizeOf(62));
        due(7, -1L, () -> m.sizeOf(63));
        due(7, -1L, () -> m.sizeOf(199));
        due(33, 200, m::terms);
    }

    static void predicatesAndModes() {
        ModedMill m = lists();
        due(8, IO, () -> m.addPredicate(2, -1, -1));
        due(8, IO, () -> m.addPredicate(-2, -1, -1));
        due(8, IO, () -> m.addPredicate(-1, -1, 2));
        due(8, IA, () -> m.addPredicate(-1, 0, -1));
        due(8, IA, () -> m.addPredicate(0, -1, 1));
        due(8, IA, () -> m.addPredicate(-1, -1, 1));
        due(8, 0, () -> m.addPredicate(-1, -1, -1));
        due(8, 1, () -> m.addPredicate(0, -1, -1));
        due(8, 2, () -> m.addPredicate(0, 1, -1));
        due(8, 3, () -> m.addPredicate(1, 0, 0));
        due(8, 4, () -> m.addPredicate(1, 1, -1));
        due(8, IS, () -> m.addPredicate(1, 1, -1));
        due(9, IO, () -> m.addMode(5, 0, 'n'));
        due(9, IO, () -> m.addMode(-1, 0, 'x'));
        due(9, IA, () -> m.addMode(0, 1, 'n'));
        due(9, IA, () -> m.addMode(2, 4, 'n'));
        due(9, IA, () -> m.addMode(2, -1, 'n'));
        due(9, IA, () -> m.addMode(3, 8, 'n'));
        due(9, IA, () -> m.addMode(2, 3, 'D'));
        due(9, 0, () -> m.addMode(2, 3, 'd'));
        due(9, 1, () -> m.addMode(2, 3, 's'));
        due(9, IS, () -> m.addMode(2, 1, 'm'));
        due(9, IA, () -> m.addMode(2, 4, 'm'));
        due(9, 0, () -> m.addMode(3, 7, 'm'));
        due(9, 1, () -> m.addMode(3, 0, 'n'));
        due(10, IO, () -> m.addClause(5));
        due(10, IO, () -> m.addClause(-1));
        for (int i = 0; i < 12; i++) {
            int due = i;
            due(10, due, () -> m.addClause(due % 5));
        }
        due(10, IS, () -> m.addClause(0));
        m.compile();
        due(9, IS, () -> m.addMode(0, 0, 'n'));
        due(10, IO, () -> m.addClause(5));
        ModedMill n = new ModedMill();
        n.addPredicate(-1, -1, -1);
        n.compile();
        due(8, IS, () -> n.addPredicate(-1, -1, -1));
        due(8, IO, () -> n.addPredicate(0, -1, -1));
        due(10, IS, () -> n.addClause(0));
        n.open();
        due(8, 1, () -> n.addPredicate(-1, -1, -1));
        due(9, 0, () -> n.addMode(1, 0, 'n'));
        due(10, 0, () -> n.addClause(1));
    }

    static void goals() {
        ModedMill m = lists();
        m.addPredicate(0, 1, -1);
        m.addPredicate(1, 1, 0);
        m.addClause(0);
        due(11, IO, () -> m.addBuild(1, 0, 0, 0, 0));
        due(11, IO, () -> m.addBuild(-1, 0, 0, 0, 0));
        due(11, IO, () -> m.addBuild(0, 0, 4, 0, 0));
        due(11, IO, () -> m.addBuild(0, 0, -1, 0, 0));
        due(11, IO, () -> m.addBuild(0, 8, 0, 0, 0));
        due(11, IO, () -> m.addBuild(0, 0, 0, 8, 0));
        due(11, IO, () -> m.addBuild(0, 0, 0, 0, -1));
        due(11, IA, () -> m.addBuild(0, 1, 0, 0, 0));
        due(11, IA, () -> m.addBuild(0, 0, 0, 1, 0));
        due(11, IA, () -> m.addBuild(0, 0, 1, 0, 1));
        due(11, IA, () -> m.addBuild(0, 0, 1, 1, 0));
        due(11, IA, () -> m.addBuild(0, 1, 3, 0, 0));
        // 3 would be both of type 1 and of type 0; 4 keeps no type from what was refused.
        due(11, IA, () -> m.addBuild(0, 3, 3, 3, 1));
        due(11, IA, () -> m.addBuild(0, 4, 1, 1, 0));
        due(12, IA, () -> m.addSame(0, 4, 3));
        due(12, IA, () -> m.addSame(0, 4, 4));
        due(12, IA, () -> m.addSame(0, 0, 1));
        due(12, IO, () -> m.addSame(1, 0, 0));
        due(12, IO, () -> m.addSame(0, 8, 0));
        due(12, IO, () -> m.addSame(0, 0, -1));
        due(11, 0, () -> m.addBuild(0, 4, 3, 3, 4));
        due(12, IA, () -> m.addSame(0, 3, 4));
        due(12, 1, () -> m.addSame(0, 3, 5));
        due(12, IA, () -> m.addSame(0, 5, 4));
        due(12, 2, () -> m.addSame(0, 6, 6 - 1));
        due(13, IO, () -> m.addCall(1, 0, 0, 1, 0, false));
        due(13, IO, () -> m.addCall(0, 2, 0, 1, 0, false));
        due(13, IO, () -> m.addCall(0, -1, 0, 1, 0, false));
        due(13, IO, () -> m.addCall(0, 0, 0, 1, 8, false));
        due(13, IA, () -> m.addCall(0, 0, 0, 1, 2, false));
        due(13, IA, () -> m.addCall(0, 0, 0, 0, 0, false));
        due(13, IA, () -> m.addCall(0, 1, 7, 1, 7, false));
        due(13, 3, () -> m.addCall(0, 1, 7, 1, 6, true));
        due(12, IA, () -> m.addSame(0, 7, 0));
        due(12, 4, () -> m.addSame(0, 7, 7));
        due(11, IS, () -> m.addBuild(0, 0, 0, 0, 0));
        due(12, IS, () -> m.addSame(0, 7, 7));
        due(13, IS, () -> m.addCall(0, 0, 0, 1, 0, false));
        due(13, IA, () -> m.addCall(0, 0, 1, 1, 0, false));
        m.addClause(1);
        m.compile();
        due(11, IS, () -> m.addBuild(1, 0, 2, 0, 0));
        due(12, IS, () -> m.addSame(1, 0, 0));
        due(13, IS, () -> m.addCall(1, 0, 2, 1, 0, false));
        due(11, IA, () -> m.addBuild(1, 0, 2, 1, 0));
        m.open();
        due(11, 0, () -> m.addBuild(1, 0, 2, 0, 0));
    }

    static void compiling() {
        ModedMill m = append();
        due(16, IS, () -> m.fault(0, 0));
        due(17, IS, () -> m.isGood(0, 0));
        due(18, IS, () -> m.found(0, 0));
        due(19, IS, () -> m.switchOf(0, 0));
        due(20, IS, () -> m.goalAt(0, 0, 0));
        due(21, IS, () -> m.chosenAt(0, 0, 0));
        due(34, IS, m::onceShare);
        due(16, IO, () -> m.fault(1, 0));
        due(14, 0, m::compile);
        due(14, IS, m::compile);
        due(15, 0, m::open);
        due(15, IS, m::open);
        due(14, 0, m::compile);
        m.term(2, 0, 0);
        m.ask(0, 0, 0, 0, 0);
        m.ask(0, 1, 0, 0, 0);
        due(15, 2, m::open);
        due(14, 0, m::compile);
        due(15, 0, m::open);
        m.addPredicate(0, 0, -1);
        m.addMode(1, 1, 'n');
        m.addClause(1);
        due(14, 1, m::compile);
        due(16, 'o', () -> m.fault(1, 0));
        due(16, '-', () -> m.fault(0, 1));
        due(16, IO, () -> m.fault(1, 1));
        due(16, IO, () -> m.fault(2, 0));
        due(16, IO, () -> m.fault(-1, 0));
        due(16, IO, () -> m.fault(0, -1));
        due(17, false, () -> m.isGood(1, 0));
        due(17, true, () -> m.isGood(0, 0));
        due(17, IO, () -> m.isGood(0, 2));
        due(18, NS, () -> m.found(1, 0));
        due(18, IO, () -> m.found(2, 0));
        due(18, 'd', () -> m.found(0, 0));
        due(18, 'm', () -> m.found(0, 1));
        due(19, 0, () -> m.switchOf(0, 0));
        due(19, NS, () -> m.switchOf(0, 1));
        due(19, NS, () -> m.switchOf(1, 0));
        due(19, IO, () -> m.switchOf(0, 2));
        due(22, UN, () -> m.ask(1, 0, m.term(0, 0, 0), 0, 0));
    }

    static void orders() {
        ModedMill m = append();
        m.addPredicate(1, 1, -1);
        m.addMode(1, 1, 'n');
        m.addMode(1, 3, 'n');
        // Clause 2: last(l, k) has goals of all kinds; the denied call waits for both of its variables.
        m.addClause(1);
        m.addCall(2, 0, 3, 4, 1, true);
        m.addCall(2, 0, 3, 4, 0, false);
        m.addSame(2, 5, 1);
        m.addBuild(2, 1, 3, 6, 3);
        m.addBuild(2, 6, 0, 0, 0);
        due(14, 0, m::compile);
        int[] goals = {1, 4, 3, 0, 2};
        for (int i = 0; i < 5; i++) {
            int place = i;
            due(20, goals[place], () -> m.goalAt(2, 0, place));
        }
        int[] again = {1, 0, 2, 3, 4};
        for (int i = 0; i < 5; i++) {
            int place = i;
            due(20, again[place], () -> m.goalAt(2, 1, place));
        }
        due(20, NS, () -> m.goalAt(2, 0, 5));
        due(20, NS, () -> m.goalAt(2, 0, -1));
        due(20, IO, () -> m.goalAt(3, 0, 0));
        due(20, IO, () -> m.goalAt(-1, 0, 0));
        due(20, IO, () -> m.goalAt(2, 2, 0));
        due(20, IO, () -> m.goalAt(2, -1, 9));
        due(21, 1, () -> m.chosenAt(2, 0, 0));
        due(21, NS, () -> m.chosenAt(2, 0, 1));
        due(21, 0, () -> m.chosenAt(2, 0, 3));
        due(21, NS, () -> m.chosenAt(2, 0, 5));
        due(21, IO, () -> m.chosenAt(3, 0, 0));
        due(21, IO, () -> m.chosenAt(2, 2, 0));
        due(21, 0, () -> m.chosenAt(1, 0, 1));
        due(21, 1, () -> m.chosenAt(1, 1, 1));
        due(20, 2, () -> m.goalAt(1, 1, 0));
    }

    static void halfOrders() {
        ModedMill m = lists();
        m.addPredicate(0, 0, -1);
        m.addMode(0, 1, 'n');
        m.addMode(0, 0, 'n');
        m.addClause(0);
        m.addBuild(0, 3, 1, 4, 0);
        m.addSame(0, 1, 0);
        due(14, 2, m::compile);
        // What could be taken has its place, though a goal is left.
        due(20, 1, () -> m.goalAt(0, 0, 0));
        due(20, NS, () -> m.goalAt(0, 0, 1));
        due(20, NS, () -> m.goalAt(0, 1, 0));
        due(16, 'o', () -> m.fault(0, 0));
        due(34, AR, m::onceShare);
        m.open();
        // A mode that chooses a bad one is bad, too, but has no fault.
        m.addPredicate(0, -1, -1);
        m.addMode(1, 1, 'd');
        m.addClause(1);
        m.addCall(1, 0, 0, 3, 0, true);
        m.addSame(1, 3, 0);
        m.addPredicate(0, -1, -1);
        m.addMode(2, 1, 'd');
        m.addClause(2);
        m.addCall(2, 1, 0, 0, 0, false);
        m.addPredicate(-1, -1, -1);
        m.addMode(3, 0, 's');
        due(14, 2, m::compile);
        due(16, '-', () -> m.fault(1, 0));
        due(17, false, () -> m.isGood(1, 0));
        due(17, false, () -> m.isGood(2, 0));
        due(18, NS, () -> m.found(2, 0));
        due(17, true, () -> m.isGood(3, 0));
        due(18, 's', () -> m.found(3, 0));
        due(34, 1.0f, m::onceShare);
        due(22, UN, () -> m.ask(2, 0, m.term(0, 0, 0), 0, 0));
        due(19, NS, () -> m.switchOf(3, 0));
    }

    static void found() {
        ModedMill m = lists();
        // 0: a switch on the second argument that leaves out a constructor.
        m.addPredicate(1, 0, -1);
        m.addMode(0, 3, 'd');
        m.addMode(0, 2, 'd');
        m.addClause(0);
        m.addBuild(0, 1, 1, 3, 0);
        m.addBuild(0, 0, 2, 0, 0);
        // 1: both constructors, but the first goal can fail: its part has a value.
        m.addPredicate(0, 0, -1);
        m.addMode(1, 3, 'm');
        m.addMode(1, 1, 'd');
        m.addClause(1);
        m.addBuild(1, 0, 0, 0, 0);
        m.addSame(1, 1, 0);
        m.addClause(1);
        m.addBuild(2, 0, 1, 1, 0);
        // 2: two clauses without a switch, of which one cannot fail.
        m.addPredicate(0, -1, -1);
        m.addMode(2, 1, 'm');
        m.addMode(2, 0, 's');
        m.addClause(2);
        m.addBuild(3, 0, 0, 0, 0);
        m.addClause(2);
        m.addBuild(4, 3, 0, 0, 0);
        m.addBuild(4, 0, 1, 3, 0);
        // 3: calls 2, whose output is there once.
        m.addPredicate(0, 0, -1);
        m.addMode(3, 1, 'n');
        m.addMode(3, 0, 'm');
        m.addClause(3);
        m.addCall(5, 2, 1, 0, 0, false);
        m.addSame(5, 0, 1);
        // 4: calls itself for ever.
        m.addPredicate(-1, -1, -1);
        m.addMode(4, 0, 'd');
        m.addClause(4);
        m.addCall(6, 4, 0, 0, 0, false);
        due(14, 5, m::compile);
        due(19, 1, () -> m.switchOf(0, 0));
        due(18, 's', () -> m.found(0, 0));
        due(16, 'p', () -> m.fault(0, 0));
        due(18, 's', () -> m.found(0, 1));
        due(19, 0, () -> m.switchOf(1, 0));
        due(18, 's', () -> m.found(1, 0));
        due(16, 'p', () -> m.fault(1, 0));
        due(18, 'd', () -> m.found(1, 1));
        due(16, '-', () -> m.fault(1, 1));
        due(19, NS, () -> m.switchOf(2, 0));
        due(18, 'n', () -> m.found(2, 0));
        due(16, 'p', () -> m.fault(2, 0));
        due(18, 'm', () -> m.found(2, 1));
        due(16, 'p', () -> m.fault(2, 1));
        due(18, 'n', () -> m.found(3, 0));
        due(16, '-', () -> m.fault(3, 0));
        due(18, 'm', () -> m.found(3, 1));
        due(18, 'd', () -> m.found(4, 0));
        due(34, 5f / 9f, m::onceShare);
    }

    static void asking() {
        ModedMill m = append();
        int nil = m.term(2, 0, 0);
        int zero = m.term(0, 0, 0);
        int list = m.term(3, zero, nil);
        due(22, IS, () -> m.ask(0, 0, list, list, 0));
        due(22, IO, () -> m.ask(1, 0, list, list, 0));
        m.compile();
        due(35, AR, m::meanSteps);
        due(22, IO, () -> m.ask(1, 0, list, list, 0));
        due(22, IO, () -> m.ask(0, 2, list, list, 0));
        due(22, IO, () -> m.ask(0, -1, list, list, 0));
        due(22, IO, () -> m.ask(0, 0, list, 3, 0));
        due(22, IO, () -> m.ask(0, 0, -1, list, 9));
        due(22, IA, () -> m.ask(0, 0, list, zero, 0));
        due(22, IA, () -> m.ask(0, 0, list, list, 1));
        due(22, IA, () -> m.ask(0, 1, list, 0, list));
        due(22, IA, () -> m.ask(0, 1, 0, -1, list));
        for (Call c : new Call[] {m::ending, () -> m.answerAt(0, 0), () -> m.multiplicity(0), m::answersByBreadth,
            m::steps, m::choicePoints, m::deepest, m::recorded, () -> m.recordAt(0), () -> m.whereAt(0)}) {
            due(23, NS, c);
        }
        due(22, 1, () -> m.ask(0, 0, list, list, 0));
        due(33, 4, m::terms);
        due(24, 3, () -> m.answerAt(0, 2));
        due(24, list, () -> m.answerAt(0, 1));
        due(24, IO, () -> m.answerAt(0, 3));
        due(24, IO, () -> m.answerAt(0, -1));
        due(24, IO, () -> m.answerAt(1, 0));
        due(24, IO, () -> m.answerAt(-1, 0));
        due(25, 1, () -> m.multiplicity(0));
        due(25, IO, () -> m.multiplicity(1));
        due(25, IO, () -> m.multiplicity(-1));
        due(23, 'e', m::ending);
        due(27, 5, m::steps);
        due(28, 0, m::choicePoints);
        due(29, 2, m::deepest);
        due(30, 4, m::recorded);
        due(31, 'c', () -> m.recordAt(0));
        due(31, 'x', () -> m.recordAt(3));
        due(31, IO, () -> m.recordAt(4));
        due(31, IO, () -> m.recordAt(-1));
        due(32, 1, () -> m.whereAt(3));
        due(32, 2, () -> m.whereAt(1));
        due(32, IO, () -> m.whereAt(4));
        due(32, IO, () -> m.whereAt(-1));
        due(26, 1, m::answersByBreadth);
        due(22, 3, () -> m.ask(0, 1, 0, 0, 3));
        due(35, (5.0 + m.steps()) / 2.0, m::meanSteps);
        due(32, "c1 x1 r1 c2 x2 x1 r2 c3 x3 x2 x1 r3", () -> record(m));
        due(26, UN, m::answersByBreadth);
        due(26, UN, m::answersByBreadth);
        due(15, 2, m::open);
        due(23, NS, m::ending);
        due(35, AR, m::meanSteps);
        m.compile();
        due(30, NS, m::recorded);
    }

    static void records() {
        // 0 calls 1, which has two clauses, and denies 2, which has none; 3 has clauses that fail.
        ModedMill m = bare(5, "01-2", "1", "1", "02", "3-1", "30");
        due(22, 2, () -> m.ask(0, 0, 0, 0, 0));
        due(32, "c1 c102 x102 c202 f202 x1 r102 x102 c202 f202 x1 r1 c202 f202", () -> record(m));
        due(27, 4, m::steps);
        due(28, 2, m::choicePoints);
        due(25, 2, () -> m.multiplicity(1));
        due(26, 2, m::answersByBreadth);
        due(24, IO, () -> m.answerAt(0, 0));
        due(22, 2, () -> m.ask(3, 0, 0, 0, 0));
        // The choice point of the denied call is gone with its first answer: no r102 behind it.
        due(32, "c301 c102 x102 r301 c2 c103 x103 c203 f203 x2 x301 r103 x103 c203 f203 x2 x301 r2 c203 f203",
                () -> record(m));
        due(28, 4, m::choicePoints);
        due(29, 3, m::deepest);
        due(22, 0, () -> m.ask(4, 0, 0, 0, 0));
        due(32, "c401 f401", () -> record(m));
        due(29, 1, m::deepest);
        due(27, 0, m::steps);
        due(26, 0, m::answersByBreadth);
        due(35, (4.0 + 6.0 + 0.0) / 3.0, m::meanSteps);
    }

    static void limits() {
        ModedMill fifty = bare(2, "1", "1", "011111", "01111", "01");
        due(22, 50, () -> fifty.ask(0, 0, 0, 0, 0));
        due(23, 'e', fifty::ending);
        due(25, 50, () -> fifty.multiplicity(49));
        due(25, IO, () -> fifty.multiplicity(50));
        due(30, 80, fifty::recorded);
        due(31, IO, () -> fifty.recordAt(80));
        ModedMill more = bare(2, "1", "1", "011111", "01111", "01", "0");
        due(22, 50, () -> more.ask(0, 0, 0, 0, 0));
        due(23, 'l', more::ending);
        due(26, 51, more::answersByBreadth);
        // 0 is a fact, 1 calls it five times, 2 calls 1 five times, 3 calls 2 five times.
        String[] counting = {"0", "100000", "211111", "322222", "432222", "411100", "40"};
        ModedMill exact = bare(5, java.util.Arrays.copyOf(counting, 6));
        due(22, 2, () -> exact.ask(4, 0, 0, 0, 0));
        due(23, 'e', exact::ending);
        due(27, 300, exact::steps);
        ModedMill over = bare(5, counting);
        due(22, 2, () -> over.ask(4, 0, 0, 0, 0));
        due(23, 'l', over::ending);
        due(27, 300, over::steps);
        due(26, UN, over::answersByBreadth);
        ModedMill endless = bare(1, "00");
        due(22, 0, () -> endless.ask(0, 0, 0, 0, 0));
        due(23, 'l', endless::ending);
        due(27, 30, endless::steps);
        due(29, 30, endless::deepest);
        due(30, 30, endless::recorded);
        due(26, UN, endless::answersByBreadth);
        // The limits hold in denied calls, too, and end the question itself.
        ModedMill denied = bare(2, "00", "1-0");
        due(22, 0, () -> denied.ask(1, 0, 0, 0, 0));
        due(23, 'l', denied::ending);
        due(29, 30, denied::deepest);
        due(27, 30, denied::steps);
    }

    static void depth() {
        ModedMill m = lists();
        m.addPredicate(0, -1, -1);
        m.addMode(0, 1, 'd');
        m.addClause(0);
        m.addBuild(0, 0, 0, 0, 0);
        m.addClause(0);
        m.addBuild(1, 0, 1, 1, 0);
        m.addCall(1, 0, 1, 0, 0, false);
        m.compile();
        due(18, 'd', () -> m.found(0, 0));
        int deep = number(m, 29);
        due(22, 1, () -> m.ask(0, 0, deep, 0, 0));
        due(23, 'e', m::ending);
        due(29, 30, m::deepest);
        due(27, 59, m::steps);
        due(26, 1, m::answersByBreadth);
        int deeper = number(m, 30);
        due(22, 0, () -> m.ask(0, 0, deeper, 0, 0));
        due(23, 'l', m::ending);
        due(29, 30, m::deepest);
        due(27, 60, m::steps);
    }

    static void breadth() {
        String[] lists = {"1", "1", "2", "011111", "011111", "01112", "0"};
        ModedMill exact = bare(3, java.util.Arrays.copyOf(lists, 6));
        exact.ask(0, 0, 0, 0, 0);
        due(26, 72, exact::answersByBreadth);
        ModedMill over = bare(3, lists);
        over.ask(0, 0, 0, 0, 0);
        due(26, UN, over::answersByBreadth);
        // Denied calls go up to their first answer: 1 has one, and calls itself for ever behind it.
        ModedMill first = bare(3, "1", "11", "0-1", "02", "2");
        first.ask(0, 0, 0, 0, 0);
        due(26, 1, first::answersByBreadth);
        // A denied call that waits for an unknown for ever leaves its list out.
        ModedMill m = lists();
        m.addPredicate(0, -1, -1);
        m.addMode(0, 0, 'n');
        m.addPredicate(0, -1, -1);
        m.addMode(1, 1, 'n');
        m.addClause(0);
        m.addCall(0, 1, 0, 0, 0, true);
        m.addClause(0);
        m.addCall(1, 1, 0, 0, 0, true);
        m.addBuild(1, 0, 1, 3, 0);
        m.addBuild(1, 3, 0, 0, 0);
        // Nothing contains itself.
        m.addClause(0);
        m.addBuild(2, 0, 1, 3, 0);
        m.addBuild(2, 3, 1, 0, 0);
        m.addClause(1);
        m.addBuild(3, 0, 0, 0, 0);
        due(14, 1, m::compile);
        m.open();
        m.addMode(0, 1, 'n');
        m.compile();
        int one = number(m, 1);
        due(22, 2, () -> m.ask(0, 1, one, 0, 0));
        due(26, 2, m::answersByBreadth);
        due(22, 0, () -> m.ask(0, 1, 0, 0, 0));
        due(26, 0, m::answersByBreadth);
        due(33, 2, m::terms);
        // All of that with an unknown: only the second clause has an answer.
        ModedMill n = lists();
        n.addPredicate(0, -1, -1);
        n.addMode(0, 0, 'n');
        n.addPredicate(0, -1, -1);
        n.addMode(1, 1, 'n');
        n.addClause(0);
        n.addCall(0, 1, 0, 0, 0, true);
        n.addBuild(0, 0, 1, 3, 0);
        n.addBuild(0, 3, 0, 0, 0);
        n.addClause(1);
        n.addBuild(1, 0, 0, 0, 0);
        n.compile();
        due(22, 1, () -> n.ask(0, 0, 0, 0, 0));
        due(26, 1, n::answersByBreadth);
        due(33, 2, n::terms);
    }

    /** Numbers with 0, its predicate: waiting(x) has the goals that the test adds; 1 is one(s(a)), 2 is zero(z). */
    static ModedMill waiting() {
        ModedMill m = lists();
        m.addPredicate(0, -1, -1);
        m.addMode(0, 0, 'n');
        for (int p = 1; p < 3; p++) {
            m.addPredicate(0, -1, -1);
            m.addMode(p, 1, 'n');
            m.addClause(p);
            m.addBuild(p - 1, 0, p == 1 ? 1 : 0, p == 1 ? 1 : 0, 0);
        }
        return m;
    }

    static void waitingGoals() {
        for (int ones = 0; ones < 4; ones++) {
            ModedMill m = waiting();
            m.addClause(0);
            for (int i = 0; i < ones; i++) m.addCall(2, 1, 0, 0, 0, true);
            m.addCall(2, 2, 0, 0, 0, true);
            m.addBuild(2, 0, 0, 0, 0);
            m.addClause(0);
            for (int i = 0; i < ones; i++) m.addCall(3, 1, 0, 0, 0, true);
            m.addBuild(3, 0, 0, 0, 0);
            due(14, 0, m::compile);
            due(22, 1, () -> m.ask(0, 0, 0, 0, 0));
            due(26, 1, m::answersByBreadth);
        }
        // A term is ground in one list, and has an unknown in the list behind it: there a denied call waits.
        ModedMill m = lists();
        m.addPredicate(0, -1, -1);
        m.addMode(0, 0, 'n');
        m.addPredicate(0, 0, -1);
        m.addMode(1, 3, 'n');
        m.addPredicate(-1, -1, -1);
        m.addMode(2, 0, 'n');
        m.addPredicate(0, 0, -1);
        m.addMode(3, 3, 'n');
        m.addPredicate(0, -1, -1);
        m.addMode(4, 0, 'n');
        m.addClause(0);
        m.addBuild(0, 3, 1, 0, 0);
        m.addCall(0, 3, 0, 3, 0, false);
        m.addCall(0, 1, 3, 4, 0, true);
        m.addCall(0, 4, 0, 0, 0, false);
        m.addBuild(0, 4, 0, 0, 0);
        m.addClause(1);
        m.addBuild(1, 0, 1, 2, 0);
        m.addBuild(1, 2, 1, 3, 0);
        m.addClause(2);
        m.addClause(3);
        m.addBuild(3, 0, 0, 0, 0);
        m.addClause(3);
        m.addCall(4, 2, 0, 0, 0, false);
        m.addCall(4, 1, 1, 1, 0, true);
        m.addClause(4);
        m.addBuild(5, 0, 0, 0, 0);
        due(14, 0, m::compile);
        due(22, 2, () -> m.ask(0, 0, 0, 0, 0));
        due(26, 2, m::answersByBreadth);
    }

    static void compilingAgain() {
        ModedMill m = lists();
        m.addPredicate(0, -1, -1);
        m.addMode(0, 1, 's');
        m.addPredicate(-1, -1, -1);
        m.addMode(1, 0, 'd');
        m.addClause(0);
        m.addClause(0);
        due(14, 2, m::compile);
        due(18, 'm', () -> m.found(0, 0));
        due(18, 's', () -> m.found(1, 0));
        due(19, NS, () -> m.switchOf(0, 0));
        due(15, 0, m::open);
        m.addBuild(0, 0, 0, 0, 0);
        m.addBuild(1, 0, 1, 1, 0);
        m.addClause(1);
        due(14, 0, m::compile);
        due(18, 'd', () -> m.found(0, 0));
        due(18, 'd', () -> m.found(1, 0));
        due(19, 0, () -> m.switchOf(0, 0));
        due(15, 0, m::open);
        // A new constructor without a clause.
        m.addConstructor(0, -1, -1);
        due(14, 0, m::compile);
        due(18, 's', () -> m.found(0, 0));
        int term = m.term(4, 0, 0);
        due(22, 0, () -> m.ask(0, 0, term, 0, 0));
        due(32, "c1 f1", () -> record(m));
    }

    static void outputs() {
        ModedMill m = lists();
        // 0: two numbers as outputs, (0, 0), (0, 1) and (1, 1).
        m.addPredicate(0, 0, -1);
        m.addMode(0, 0, 'm');
        m.addMode(0, 3, 'n');
        for (int c = 0; c < 3; c++) {
            m.addClause(0);
            m.addBuild(c, 3, 0, 0, 0);
            m.addBuild(c, 4, 1, 3, 0);
            m.addSame(c, 0, c == 2 ? 4 : 3);
            m.addSame(c, 1, c == 0 ? 3 : 4);
        }
        // 1: both outputs are the same variable; it is denied that (0, x) holds for it.
        m.addPredicate(0, -1, -1);
        m.addMode(1, 0, 'n');
        m.addClause(1);
        m.addCall(3, 0, 0, 0, 0, false);
        m.addBuild(3, 3, 0, 0, 0);
        m.addCall(3, 0, 3, 0, 0, true);
        // 2: the output has a value.
        m.addPredicate(0, -1, -1);
        m.addMode(2, 1, 'n');
        m.addClause(2);
        m.addCall(4, 0, 0, 3, 0, false);
        due(14, 0, m::compile);
        due(18, 'm', () -> m.found(0, 0));
        due(18, 'n', () -> m.found(1, 0));
        due(18, 'n', () -> m.found(2, 0));
        due(22, 3, () -> m.ask(0, 0, 0, 0, 0));
        due(24, 0, () -> m.answerAt(1, 0));
        due(24, 1, () -> m.answerAt(1, 1));
        due(22, 0, () -> m.ask(1, 0, 0, 0, 0));
        due(22, 2, () -> m.ask(2, 0, 0, 0, 0));
        due(25, 2, () -> m.multiplicity(0));
        due(22, 1, () -> m.ask(2, 0, 1, 0, 0));
        due(22, 1, () -> m.ask(0, 1, 0, 1, 0));
        due(26, 1, m::answersByBreadth);
        due(33, 2, m::terms);
    }

    static void fullTerms() {
        ModedMill m = lists();
        m.addPredicate(0, 0, -1);
        m.addMode(0, 1, 'd');
        m.addClause(0);
        m.addBuild(0, 3, 1, 0, 0);
        m.addBuild(0, 1, 1, 3, 0);
        m.compile();
        number(m, 196);
        due(33, 197, m::terms);
        due(22, 1, () -> m.ask(0, 0, 196, 0, 0));
        due(33, 199, m::terms);
        due(22, UN, () -> m.ask(0, 0, 198, 0, 0));
        due(33, 199, m::terms);
        // What was refused leaves the other terms where they are.
        for (int i = 1; i < 199; i++) {
            int term = i;
            due(4, term, () -> m.term(1, term - 1, 0));
        }
        due(24, 198, () -> m.answerAt(0, 1));
        due(35, 2.0, m::meanSteps);
        due(26, 1, m::answersByBreadth);
        due(4, 199, () -> m.term(1, 198, 0));
        due(22, 1, () -> m.ask(0, 0, 197, 0, 0));
        due(22, UN, () -> m.ask(0, 0, 199, 0, 0));
        due(22, UN, () -> m.ask(0, 0, 198, 0, 0));
        due(4, IS, () -> m.term(1, 199, 0));
        due(15, 2, m::open);
        due(33, 200, m::terms);
    }

    public static void main(String[] args) {
        types();
        terms();
        manyTerms();
        predicatesAndModes();
        goals();
        compiling();
        orders();
        halfOrders();
        found();
        asking();
        records();
        limits();
        depth();
        breadth();
        waitingGoals();
        compilingAgain();
        outputs();
        fullTerms();
        System.out.println(wrong == 0 ? "all promises hold" : wrong + " answers are not as due");
        if (wrong != 0) System.exit(1);
    }
}
