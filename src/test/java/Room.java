import java.lang.management.ManagementFactory;

/** Runs of 512 dear calls: what they make must stay far below the room of 600,000 objects and 7.3 million fields. */
public final class Room {
    /** 7.3 million fields of 4 bytes are 29 million bytes; a quarter of them is the most that a run may take. */
    private static final long BYTES = 7_300_000;

    private static int wrong = 0;

    static long bytes() {
        com.sun.management.ThreadMXBean bean = (com.sun.management.ThreadMXBean) ManagementFactory.getThreadMXBean();
        return bean.getThreadAllocatedBytes(Thread.currentThread().getId());
    }

    interface Run {
        void go(ModedMill mill);
    }

    static void measure(String name, Run run) {
        run.go(new ModedMill());
        long before = bytes();
        run.go(new ModedMill());
        long made = bytes() - before;
        System.out.println(name + ": " + made + " bytes");
        if (made > BYTES) wrong++;
    }

    static int breadth(ModedMill m) {
        try {
            return m.answersByBreadth();
        } catch (UnsupportedOperationException e) {
            return -1;
        }
    }

    static void askOften(ModedMill m, int predicate, int first, int second) {
        for (int i = 0; i < 240; i++) {
            m.ask(predicate, 0, first, second, 0);
            breadth(m);
        }
    }

    /** p calls itself five times: lists of 600 goals. */
    static void longLists(ModedMill m) {
        m.addPredicate(-1, -1, -1);
        m.addMode(0, 0, 'n');
        m.addClause(0);
        for (int i = 0; i < 5; i++) m.addCall(0, 0, 0, 0, 0, false);
        m.compile();
        askOften(m, 0, 0, 0);
    }

    /** Denied calls that wait stand ahead of all goals that are resolved. */
    static void waitingGoals(ModedMill m) {
        m.addType();
        m.addConstructor(0, -1, -1);
        m.addConstructor(0, 0, 0);
        m.addPredicate(-1, -1, -1);
        m.addMode(0, 0, 'n');
        m.addPredicate(0, -1, -1);
        m.addMode(1, 1, 'n');
        m.addPredicate(-1, -1, -1);
        m.addMode(2, 0, 'n');
        m.addClause(0);
        for (int v = 0; v < 2; v++) m.addCall(0, 1, v, 0, 0, true);
        m.addCall(0, 0, 0, 0, 0, false);
        m.addBuild(0, 0, 1, 1, 1);
        m.addBuild(0, 1, 0, 0, 0);
        m.addClause(0);
        m.addClause(1);
        m.compile();
        askOften(m, 0, 0, 0);
    }

    /** Many clauses with many choice points, terms that double, and denied calls in denied calls. */
    static void wideTrees(ModedMill m) {
        m.addType();
        m.addConstructor(0, -1, -1);
        m.addConstructor(0, 0, 0);
        m.addPredicate(0, 0, -1);
        m.addMode(0, 1, 'n');
        m.addPredicate(0, -1, -1);
        m.addMode(1, 1, 'n');
        for (int c = 0; c < 6; c++) {
            m.addClause(0);
            m.addBuild(c, 0, 1, 2, 3);
            m.addCall(c, 0, 2, 4, 0, false);
            m.addCall(c, 0, 3, 5, 0, false);
            m.addBuild(c, 1, 1, 4, 5);
        }
        m.addClause(0);
        m.addSame(6, 0, 1);
        m.addClause(1);
        m.addBuild(7, 0, 1, 1, 2);
        m.addCall(7, 1, 1, 0, 0, true);
        m.addCall(7, 0, 2, 3, 0, false);
        int t = m.term(0, 0, 0);
        for (int i = 0; i < 20; i++) t = m.term(1, t, t);
        m.compile();
        for (int i = 0; i < 120; i++) {
            m.ask(0, 0, t, 0, 0);
            breadth(m);
            m.ask(1, 0, t, 0, 0);
            breadth(m);
        }
    }

    /** Two terms that double are built apart, then made equal in each of many lists. */
    static void doubleTerms(ModedMill m) {
        m.addType();
        m.addConstructor(0, -1, -1);
        m.addConstructor(0, 0, 0);
        m.addPredicate(0, 0, -1);
        m.addMode(0, 0, 'n');
        m.addPredicate(0, -1, -1);
        m.addMode(1, 0, 'n');
        m.addClause(0);
        m.addBuild(0, 0, 1, 2, 2);
        m.addBuild(0, 1, 1, 3, 3);
        m.addCall(0, 0, 2, 3, 0, false);
        m.addClause(0);
        m.addBuild(1, 0, 0, 0, 0);
        m.addBuild(1, 1, 0, 0, 0);
        m.addClause(1);
        m.addCall(2, 0, 1, 2, 0, false);
        m.addSame(2, 1, 2);
        m.addBuild(2, 0, 0, 0, 0);
        m.compile();
        askOften(m, 1, 0, 0);
    }

    static void manyGoals(ModedMill m) {
        m.addPredicate(-1, -1, -1);
        m.addMode(0, 0, 'n');
        for (int c = 0; c < 12; c++) m.addClause(0);
        for (int i = 0; i < 480; i++) {
            try {
                m.addCall(i % 12, 0, 0, 0, 0, false);
            } catch (IllegalStateException e) {
                // The clause is full.
            }
        }
    }

    static void manyCompiles(ModedMill m) {
        m.addPredicate(-1, -1, -1);
        m.addMode(0, 0, 'n');
        for (int c = 0; c < 12; c++) {
            m.addClause(0);
            for (int i = 0; i < 5; i++) m.addCall(c, 0, 0, 0, 0, i == 3);
        }
        for (int i = 0; i < 210; i++) {
            m.compile();
            m.open();
        }
    }

    public static void main(String[] args) {
        measure("long lists", Room::longLists);
        measure("waiting goals", Room::waitingGoals);
        measure("wide trees", Room::wideTrees);
        measure("double terms", Room::doubleTerms);
        measure("many goals", Room::manyGoals);
        measure("many compiles", Room::manyCompiles);
        System.out.println(wrong == 0 ? "all runs stay small" : wrong + " runs are too large");
        if (wrong != 0) System.exit(1);
    }
}
