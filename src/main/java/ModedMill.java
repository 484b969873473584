import java.util.ArrayList;
import java.util.Arrays;
import java.util.NoSuchElementException;

/** A logic language whose compiler finds the order of goals; ../shared/DOC.md says what each call does. */
public final class ModedMill {
    private static final int TYPES = 3;
    private static final int CONSTRUCTORS = 10;
    private static final int TERMS = 200;
    private static final int PREDICATES = 5;
    private static final int ARGUMENTS = 3;
    private static final int MODES = 2;
    private static final int CLAUSES = 12;
    private static final int VARIABLES = 8;
    private static final int GOALS = 5;
    private static final int STEPS = 300;
    private static final int DEPTH = 30;
    private static final int ANSWERS = 50;
    private static final int RECORD = 80;
    private static final int LISTS = 150;

    /** Stands for whatever is not there. */
    private static final int NONE = -1;
    /** Far above what any run can need: ends loops whose end no limit of the document tells. */
    private static final int MANY = 1000000;

    private final Terms store;
    private final Program program;
    private final Machine machine;
    private final Breadth breadth;
    private Report last;
    private Report spare;
    private boolean isCompiled;
    private int asked;
    private long stepSum;

    public ModedMill() {
        store = new Terms();
        program = new Program();
        last = new Report();
        spare = new Report();
        machine = new Machine(store, spare);
        breadth = new Breadth(program, store);
        isCompiled = false;
        asked = 0;
        stepSum = 0;
    }

    // ---- types and terms

    public int addType() throws IllegalStateException {
        if (store.typeCount() >= TYPES || isCompiled) {
            throw new IllegalStateException();
        }
        return store.newType();
    }

    public int addConstructor(int type, int first, int second)
            throws IndexOutOfBoundsException, IllegalArgumentException, IllegalStateException {
        if (!store.hasType(type) || !isTypeOrNone(first) || !isTypeOrNone(second)) {
            throw new IndexOutOfBoundsException();
        }
        if (first == NONE && second != NONE) {
            throw new IllegalArgumentException();
        }
        if (store.constructorCount() >= CONSTRUCTORS || isCompiled) {
            throw new IllegalStateException();
        }
        return store.newConstructor(type, first, second);
    }

    public int term(int constructor, int first, int second)
            throws IndexOutOfBoundsException, IllegalArgumentException, IllegalStateException {
        if (!store.hasConstructor(constructor) || !store.hasParts(constructor, first, second)) {
            throw new IndexOutOfBoundsException();
        }
        if (!store.fits(constructor, first, second)) {
            throw new IllegalArgumentException();
        }
        int term = store.make(constructor, first, second);
        if (term == NONE) {
            throw new IllegalStateException();
        }
        return term;
    }

    public int constructorOf(int term) throws IndexOutOfBoundsException {
        refuseMissingTerm(term);
        return store.headOf(term);
    }

    public int partOf(int term, int index) throws IndexOutOfBoundsException, NoSuchElementException {
        refuseMissingTerm(term);
        if (index < 0 || index >= store.partCount(store.headOf(term))) {
            throw new NoSuchElementException();
        }
        return store.part(term, index);
    }

    public long sizeOf(int term) throws IndexOutOfBoundsException {
        refuseMissingTerm(term);
        return store.size(term);
    }

    // ---- predicates, modes, clauses

    public int addPredicate(int first, int second, int third)
            throws IndexOutOfBoundsException, IllegalArgumentException, IllegalStateException {
        if (!isTypeOrNone(first) || !isTypeOrNone(second) || !isTypeOrNone(third)) {
            throw new IndexOutOfBoundsException();
        }
        if (first == NONE && second != NONE || second == NONE && third != NONE) {
            throw new IllegalArgumentException();
        }
        if (program.predicateCount() >= PREDICATES || isCompiled) {
            throw new IllegalStateException();
        }
        return program.newPredicate(first, second, third);
    }

    public int addMode(int predicate, int inputs, char promise)
            throws IndexOutOfBoundsException, IllegalArgumentException, IllegalStateException {
        Predicate owner = program.predicateAt(predicate);
        if (owner == null) {
            throw new IndexOutOfBoundsException();
        }
        if ((inputs & ~owner.argumentSet()) != 0 || !isPromise(promise)) {
            throw new IllegalArgumentException();
        }
        if (owner.modeCount() >= MODES || isCompiled) {
            throw new IllegalStateException();
        }
        return program.newMode(owner, inputs, promise);
    }

    public int addClause(int predicate) throws IndexOutOfBoundsException, IllegalStateException {
        Predicate owner = program.predicateAt(predicate);
        if (owner == null) {
            throw new IndexOutOfBoundsException();
        }
        if (program.clauseCount() >= CLAUSES || isCompiled) {
            throw new IllegalStateException();
        }
        return program.newClause(owner);
    }

    public int addBuild(int clause, int x, int constructor, int y, int z)
            throws IndexOutOfBoundsException, IllegalArgumentException, IllegalStateException {
        Clause owner = program.clauseAt(clause);
        if (owner == null || !store.hasConstructor(constructor) || !areVariables(x, y, z)) {
            throw new IndexOutOfBoundsException();
        }
        Goal goal = new Goal(Goal.BUILD, constructor, 1 + store.partCount(constructor), x, y, z);
        int whole = store.typeOfHead(constructor);
        int first = store.partType(constructor, 0);
        int second = store.partType(constructor, 1);
        return addGoal(owner, goal, whole, first, second);
    }

    public int addSame(int clause, int x, int y)
            throws IndexOutOfBoundsException, IllegalArgumentException, IllegalStateException {
        Clause owner = program.clauseAt(clause);
        if (owner == null || !areVariables(x, y, 0)) {
            throw new IndexOutOfBoundsException();
        }
        int type = owner.typeAt(x) != NONE ? owner.typeAt(x) : owner.typeAt(y);
        if (type == NONE) {
            throw new IllegalArgumentException();
        }
        return addGoal(owner, new Goal(Goal.SAME, NONE, 2, x, y, 0), type, type, NONE);
    }

    public int addCall(int clause, int predicate, int x, int y, int z, boolean isDenied)
            throws IndexOutOfBoundsException, IllegalArgumentException, IllegalStateException {
        Clause owner = program.clauseAt(clause);
        Predicate called = program.predicateAt(predicate);
        if (owner == null || called == null || !areVariables(x, y, z)) {
            throw new IndexOutOfBoundsException();
        }
        int kind = isDenied ? Goal.DENIED : Goal.CALL;
        Goal goal = new Goal(kind, predicate, called.arity(), x, y, z);
        return addGoal(owner, goal, called.typeAt(0), called.typeAt(1), called.typeAt(2));
    }

    // ---- what the compiler finds

    public int compile() throws IllegalStateException {
        if (isCompiled) {
            throw new IllegalStateException();
        }
        program.analyse(store);
        isCompiled = true;
        return program.faultCount();
    }

    public int open() throws IllegalStateException {
        refuseUncompiled();
        int questions = asked;
        isCompiled = false;
        asked = 0;
        stepSum = 0;
        return questions;
    }

    public char fault(int predicate, int mode) throws IndexOutOfBoundsException, IllegalStateException {
        return compiledMode(predicate, mode).faultSign();
    }

    public boolean isGood(int predicate, int mode) throws IndexOutOfBoundsException, IllegalStateException {
        return compiledMode(predicate, mode).good;
    }

    public char found(int predicate, int mode)
            throws IndexOutOfBoundsException, IllegalStateException, NoSuchElementException {
        Mode wanted = compiledMode(predicate, mode);
        if (!wanted.good) {
            throw new NoSuchElementException();
        }
        return wanted.foundSign();
    }

    public int switchOf(int predicate, int mode)
            throws IndexOutOfBoundsException, IllegalStateException, NoSuchElementException {
        Mode wanted = compiledMode(predicate, mode);
        if (wanted.lost || wanted.switchPlace == NONE) {
            throw new NoSuchElementException();
        }
        return wanted.switchPlace;
    }

    public int goalAt(int clause, int mode, int place)
            throws IndexOutOfBoundsException, IllegalStateException, NoSuchElementException {
        Clause ordered = orderedClause(clause, mode);
        int goal = ordered.goalNumberIn(mode, place);
        if (goal == NONE) {
            throw new NoSuchElementException();
        }
        return goal;
    }

    public int chosenAt(int clause, int mode, int place)
            throws IndexOutOfBoundsException, IllegalStateException, NoSuchElementException {
        Clause ordered = orderedClause(clause, mode);
        Mode chosen = ordered.chosenIn(mode, place);
        if (chosen == null) {
            throw new NoSuchElementException();
        }
        return chosen.number;
    }

    // ---- questions

    public int ask(int predicate, int mode, int first, int second, int third) throws IndexOutOfBoundsException,
            IllegalArgumentException, IllegalStateException, UnsupportedOperationException {
        Mode question = program.modeAt(predicate, mode);
        if (question == null || !areInputsThere(question, first, second, third)) {
            throw new IndexOutOfBoundsException();
        }
        if (!doInputsFit(question, first, second, third)) {
            throw new IllegalArgumentException();
        }
        refuseUncompiled();
        spare.begin(question, first, second, third);
        if (!question.good || !machine.run(question, spare)) {
            throw new UnsupportedOperationException();
        }
        Report forgotten = last;
        last = spare;
        spare = forgotten;
        asked++;
        stepSum += last.stepCount;
        return last.answerCount();
    }

    public char ending() throws NoSuchElementException {
        refuseUnasked();
        return last.end;
    }

    public int answerAt(int answer, int argument) throws NoSuchElementException, IndexOutOfBoundsException {
        refuseUnasked();
        if (!last.hasAnswer(answer) || !last.hasArgument(argument)) {
            throw new IndexOutOfBoundsException();
        }
        return last.answerPart(answer, argument);
    }

    public int multiplicity(int answer) throws NoSuchElementException, IndexOutOfBoundsException {
        refuseUnasked();
        if (!last.hasAnswer(answer)) {
            throw new IndexOutOfBoundsException();
        }
        return last.countLike(answer);
    }

    public int answersByBreadth() throws NoSuchElementException, UnsupportedOperationException {
        refuseUnasked();
        if (!last.isBreadthKnown) {
            last.breadthCount = breadth.count(last);
            last.isBreadthKnown = true;
        }
        if (last.breadthCount == NONE) {
            throw new UnsupportedOperationException();
        }
        return last.breadthCount;
    }

    public int steps() throws NoSuchElementException {
        refuseUnasked();
        return last.stepCount;
    }

    public int choicePoints() throws NoSuchElementException {
        refuseUnasked();
        return last.choiceCount;
    }

    public int deepest() throws NoSuchElementException {
        refuseUnasked();
        return last.deepestCall;
    }

    public int recorded() throws NoSuchElementException {
        refuseUnasked();
        return last.noteCount();
    }

    public char recordAt(int index) throws NoSuchElementException, IndexOutOfBoundsException {
        refuseMissingNote(index);
        return last.noteSign(index);
    }

    public int whereAt(int index) throws NoSuchElementException, IndexOutOfBoundsException {
        refuseMissingNote(index);
        return last.notePlace(index);
    }

    // ---- totals

    public int terms() {
        return store.termCount();
    }

    public float onceShare() throws IllegalStateException, ArithmeticException {
        refuseUncompiled();
        int good = program.goodCount();
        if (good == 0) {
            throw new ArithmeticException();
        }
        return (float) program.onceCount() / (float) good;
    }

    public double meanSteps() throws ArithmeticException {
        if (asked == 0) {
            throw new ArithmeticException();
        }
        return (double) stepSum / (double) asked;
    }

    // ---- what the calls have in common

    private boolean isTypeOrNone(int type) {
        return type == NONE || store.hasType(type);
    }

    private static boolean isPromise(char promise) {
        return promise == 'd' || promise == 's' || promise == 'm' || promise == 'n';
    }

    private static boolean areVariables(int x, int y, int z) {
        return x >= 0 && x < VARIABLES && y >= 0 && y < VARIABLES && z >= 0 && z < VARIABLES;
    }

    private static int pick(int place, int first, int second, int third) {
        return place == 0 ? first : place == 1 ? second : third;
    }

    private int addGoal(Clause owner, Goal goal, int first, int second, int third) {
        if (!goal.isBareBehindEnd() || !owner.takesTypes(goal, first, second, third)) {
            throw new IllegalArgumentException();
        }
        if (owner.goalCount() >= GOALS || isCompiled) {
            throw new IllegalStateException();
        }
        return owner.newGoal(goal, first, second, third);
    }

    private boolean areInputsThere(Mode mode, int first, int second, int third) {
        for (int place = 0; place < ARGUMENTS; place++) {
            if (mode.isInput(place) && !store.hasTerm(pick(place, first, second, third))) {
                return false;
            }
        }
        return true;
    }

    private boolean doInputsFit(Mode mode, int first, int second, int third) {
        for (int place = 0; place < ARGUMENTS; place++) {
            int given = pick(place, first, second, third);
            boolean fits = mode.isInput(place)
                    ? store.typeOfHead(store.headOf(given)) == mode.predicate.typeAt(place)
                    : given == 0;
            if (!fits) {
                return false;
            }
        }
        return true;
    }

    private Mode compiledMode(int predicate, int mode) {
        Mode wanted = program.modeAt(predicate, mode);
        if (wanted == null) {
            throw new IndexOutOfBoundsException();
        }
        refuseUncompiled();
        return wanted;
    }

    private Clause orderedClause(int clause, int mode) {
        Clause ordered = program.clauseAt(clause);
        if (ordered == null || ordered.predicate.modeAt(mode) == null) {
            throw new IndexOutOfBoundsException();
        }
        refuseUncompiled();
        return ordered;
    }

    private void refuseMissingTerm(int term) {
        if (!store.hasTerm(term)) {
            throw new IndexOutOfBoundsException();
        }
    }

    private void refuseUncompiled() {
        if (!isCompiled) {
            throw new IllegalStateException();
        }
    }

    private void refuseUnasked() {
        if (asked == 0) {
            throw new NoSuchElementException();
        }
    }

    private void refuseMissingNote(int index) {
        refuseUnasked();
        if (index < 0 || index >= last.noteCount()) {
            throw new IndexOutOfBoundsException();
        }
    }

    /** Numbers in lines of some columns: what is not there reads as NONE, and cannot be set. */
    private static final class Table {
        private final int columns;
        private int[] cells;
        private int lines;

        Table(int columns, int room) {
            this.columns = columns > 0 ? columns : 1;
            this.cells = new int[room > 0 && room < MANY ? this.columns * room : this.columns];
            this.lines = 0;
        }

        int count() {
            return lines;
        }

        int get(int line, int column) {
            int place = line * columns + column;
            boolean isThere = line >= 0 && line < lines && column >= 0 && column < columns;
            return isThere && place >= 0 && place < cells.length ? cells[place] : NONE;
        }

        void set(int line, int column, int value) {
            int place = line * columns + column;
            boolean isThere = line >= 0 && line < lines && column >= 0 && column < columns;
            if (isThere && place >= 0 && place < cells.length) {
                cells[place] = value;
            }
        }

        /** Adds a line, with NONE behind its third column, and tells its number. */
        int add(int first, int second, int third) {
            int from = lines * columns;
            int to = from + columns;
            if (to > cells.length && to < MANY) {
                cells = Arrays.copyOf(cells, 2 * to);
            }
            if (from < 0 || to > cells.length) {
                return NONE;
            }
            Arrays.fill(cells, from, to, NONE);
            lines++;
            set(lines - 1, 0, first);
            set(lines - 1, 1, second);
            set(lines - 1, 2, third);
            return lines - 1;
        }

        void cut(int count) {
            if (count >= 0 && count < lines) {
                lines = count;
            }
        }
    }

    /** Types, constructors, and the terms that have numbers. */
    private static final class Terms {
        // The columns of constructors, and of the numbered terms.
        private static final int TYPE = 0;
        private static final int FIRST = 1;
        private static final int SECOND = 2;
        private static final int HEAD = 0;
        private static final int NEXT = 3;
        private static final int CHAINS = 64;

        private int types;
        private final Table constructors;
        private final Table numbered;
        /** For each chain the latest term in it: equal terms are always in the same chain. */
        private final Table chains;
        private final long[] sizes;

        Terms() {
            types = 0;
            constructors = new Table(3, CONSTRUCTORS);
            numbered = new Table(4, TERMS);
            chains = new Table(1, CHAINS);
            for (int chain = 0; chain < CHAINS; chain++) {
                chains.add(NONE, NONE, NONE);
            }
            sizes = new long[TERMS];
        }

        int typeCount() {
            return types;
        }

        int constructorCount() {
            return constructors.count();
        }

        int termCount() {
            return numbered.count();
        }

        boolean hasType(int type) {
            return type >= 0 && type < types;
        }

        boolean hasConstructor(int constructor) {
            return constructor >= 0 && constructor < constructors.count();
        }

        boolean hasTerm(int term) {
            return term >= 0 && term < numbered.count();
        }

        int newType() {
            types++;
            return types - 1;
        }

        int newConstructor(int type, int first, int second) {
            return constructors.add(type, first, second);
        }

        int typeOfHead(int constructor) {
            return constructors.get(constructor, TYPE);
        }

        int partType(int constructor, int index) {
            return constructors.get(constructor, index == 0 ? FIRST : SECOND);
        }

        int partCount(int constructor) {
            if (constructors.get(constructor, FIRST) == NONE) {
                return 0;
            }
            return constructors.get(constructor, SECOND) == NONE ? 1 : 2;
        }

        int headOf(int term) {
            return numbered.get(term, HEAD);
        }

        int part(int term, int index) {
            return numbered.get(term, index == 0 ? FIRST : SECOND);
        }

        long size(int term) {
            return term >= 0 && term < sizes.length ? sizes[term] : 0;
        }

        boolean hasParts(int constructor, int first, int second) {
            int parts = partCount(constructor);
            return (parts < 1 || hasTerm(first)) && (parts < 2 || hasTerm(second));
        }

        boolean fits(int constructor, int first, int second) {
            return fitsPart(constructor, 0, first) && fitsPart(constructor, 1, second);
        }

        private boolean fitsPart(int constructor, int index, int part) {
            int type = partType(constructor, index);
            return type == NONE ? part == 0 : typeOfHead(headOf(part)) == type;
        }

        private static int chainOf(int constructor, int first, int second) {
            return 31 * constructor + 7 * first + second & CHAINS - 1;
        }

        private int find(int constructor, int first, int second) {
            int term = chains.get(chainOf(constructor, first, second), 0);
            for (int looked = 0; looked < TERMS && term != NONE; looked++) {
                boolean isLike = numbered.get(term, HEAD) == constructor
                        && numbered.get(term, FIRST) == first && numbered.get(term, SECOND) == second;
                if (isLike) {
                    return term;
                }
                term = numbered.get(term, NEXT);
            }
            return NONE;
        }

        /** The number of a term, a new one if need be, or NONE if all numbers are given out. */
        int make(int constructor, int first, int second) {
            int old = find(constructor, first, second);
            if (old != NONE || numbered.count() >= TERMS) {
                return old;
            }
            int term = numbered.add(constructor, first, second);
            int chain = chainOf(constructor, first, second);
            numbered.set(term, NEXT, chains.get(chain, 0));
            chains.set(chain, 0, term);
            if (term >= 0 && term < sizes.length) {
                int parts = partCount(constructor);
                sizes[term] = 1 + (parts > 0 ? size(first) : 0) + (parts > 1 ? size(second) : 0);
            }
            return term;
        }

        /** Takes back the numbers from a number on, for a question that must change nothing. */
        void forgetFrom(int count) {
            for (int term = numbered.count() - 1; term >= count && term >= 0; term--) {
                int chain = chainOf(headOf(term), part(term, 0), part(term, 1));
                chains.set(chain, 0, numbered.get(term, NEXT));
                numbered.cut(term);
            }
        }
    }

    /** A goal: a build has x and the parts as variables, a same both sides, a call the arguments. */
    private static final class Goal {
        private static final int BUILD = 0;
        private static final int SAME = 1;
        private static final int CALL = 2;
        private static final int DENIED = 3;

        private final int kind;
        /** The constructor of a build, the predicate of a call. */
        private final int subject;
        private final int count;
        private final int[] variables;

        Goal(int kind, int subject, int count, int x, int y, int z) {
            this.kind = kind;
            this.subject = subject;
            this.count = count;
            this.variables = new int[] {x, y, z};
        }

        boolean isCalling() {
            return kind == CALL || kind == DENIED;
        }

        int variableAt(int place) {
            return place >= 0 && place < variables.length ? variables[place] : 0;
        }

        boolean isBareBehindEnd() {
            for (int place = count; place < ARGUMENTS; place++) {
                if (variableAt(place) != 0) {
                    return false;
                }
            }
            return true;
        }

        /** The set of its variables from a place on. */
        int variableSet(int from) {
            int set = 0;
            for (int place = from; place < count; place++) {
                set |= 1 << variableAt(place);
            }
            return set;
        }
    }

    /** A clause, with the types of its variables, its goals, and their order for each mode. */
    private static final class Clause {
        private final int number;
        private final Predicate predicate;
        private final Table types;
        private final ArrayList<Goal> goals;
        private final int[] lengths;
        private final int[] numbers;
        private final Goal[] ordered;
        private final Mode[] chosen;
        private final int[] known;

        Clause(int number, Predicate predicate) {
            this.number = number;
            this.predicate = predicate;
            types = new Table(1, VARIABLES);
            for (int variable = 0; variable < VARIABLES; variable++) {
                types.add(predicate.typeAt(variable), NONE, NONE);
            }
            goals = new ArrayList<>();
            lengths = new int[MODES];
            numbers = new int[MODES * GOALS];
            ordered = new Goal[MODES * GOALS];
            chosen = new Mode[MODES * GOALS];
            known = new int[MODES * GOALS];
        }

        int typeAt(int variable) {
            return types.get(variable, 0);
        }

        int goalCount() {
            return goals.size();
        }

        Goal goalNumbered(int goal) {
            return goal >= 0 && goal < goals.size() ? goals.get(goal) : null;
        }

        /** Whether the variables of a goal have these types, or can get them. */
        boolean takesTypes(Goal goal, int first, int second, int third) {
            for (int place = 0; place < goal.count; place++) {
                int due = pick(place, first, second, third);
                int type = typeAt(goal.variableAt(place));
                for (int ahead = 0; ahead < place && type == NONE; ahead++) {
                    if (goal.variableAt(ahead) == goal.variableAt(place)) {
                        type = pick(ahead, first, second, third);
                    }
                }
                if (type != NONE && type != due) {
                    return false;
                }
            }
            return true;
        }

        int newGoal(Goal goal, int first, int second, int third) {
            for (int place = 0; place < goal.count; place++) {
                types.set(goal.variableAt(place), 0, pick(place, first, second, third));
            }
            goals.add(goal);
            return goals.size() - 1;
        }

        int placeCount(int mode) {
            return mode >= 0 && mode < lengths.length ? lengths[mode] : 0;
        }

        void clearOrder(int mode) {
            if (mode >= 0 && mode < lengths.length) {
                lengths[mode] = 0;
            }
        }

        /** Puts a goal at the end of an order, with what has values when it is taken. */
        void takeNext(int mode, int goal, Mode chosenMode, int knownSet) {
            int place = placeCount(mode);
            if (mode < 0 || mode >= lengths.length || place >= GOALS) {
                return;
            }
            lengths[mode] = place + 1;
            int slot = slot(mode, place);
            if (slot >= 0 && slot < numbers.length && slot < ordered.length && slot < chosen.length
                    && slot < known.length) {
                numbers[slot] = goal;
                ordered[slot] = goalNumbered(goal);
                chosen[slot] = chosenMode;
                known[slot] = knownSet;
            }
        }

        /** Where a place of an order is kept, or NONE if the order has no such place. */
        private int slot(int mode, int place) {
            boolean isOrder = mode >= 0 && mode < lengths.length;
            return isOrder && place >= 0 && place < GOALS && place < lengths[mode] ? mode * GOALS + place : NONE;
        }

        int goalNumberIn(int mode, int place) {
            int slot = slot(mode, place);
            return slot >= 0 && slot < numbers.length ? numbers[slot] : NONE;
        }

        Goal goalIn(int mode, int place) {
            int slot = slot(mode, place);
            return slot >= 0 && slot < ordered.length ? ordered[slot] : null;
        }

        /** The mode that is chosen for the call at a place, or null if there is none. */
        Mode chosenIn(int mode, int place) {
            int slot = slot(mode, place);
            return slot >= 0 && slot < chosen.length ? chosen[slot] : null;
        }

        /** The variables that have values when the goal at a place is taken. */
        int knownIn(int mode, int place) {
            int slot = slot(mode, place);
            return slot >= 0 && slot < known.length ? known[slot] : 0;
        }
    }

    /** A mode of a predicate, and what is found of it. */
    private static final class Mode {
        private final Predicate predicate;
        private final int number;
        private final int inputs;
        private final char promise;
        private boolean lost;
        private boolean good;
        private boolean canFail;
        private boolean canRepeat;
        private int switchPlace;

        Mode(Predicate predicate, int number, int inputs, char promise) {
            this.predicate = predicate;
            this.number = number;
            this.inputs = inputs;
            this.promise = promise;
            this.switchPlace = NONE;
        }

        boolean isInput(int place) {
            return place >= 0 && place < ARGUMENTS && (inputs >> place & 1) == 1;
        }

        char foundSign() {
            if (canRepeat) {
                return canFail ? 'n' : 'm';
            }
            return canFail ? 's' : 'd';
        }

        private boolean isBroken() {
            boolean failsAgainst = canFail && (promise == 'd' || promise == 'm');
            boolean repeatsAgainst = canRepeat && (promise == 'd' || promise == 's');
            return failsAgainst || repeatsAgainst;
        }

        char faultSign() {
            if (lost) {
                return 'o';
            }
            return good && isBroken() ? 'p' : '-';
        }
    }

    /** A predicate with its modes and its clauses. */
    private static final class Predicate {
        private final int number;
        private final Table types;
        private final ArrayList<Mode> modes;
        private final ArrayList<Clause> clauses;
        /** A question as a call whose variables are the arguments. */
        private final Goal question;

        Predicate(int number, int first, int second, int third) {
            this.number = number;
            int arity = first == NONE ? 0 : second == NONE ? 1 : third == NONE ? 2 : ARGUMENTS;
            types = new Table(1, ARGUMENTS);
            for (int place = 0; place < arity; place++) {
                types.add(pick(place, first, second, third), NONE, NONE);
            }
            modes = new ArrayList<>();
            clauses = new ArrayList<>();
            question = new Goal(Goal.CALL, number, arity, 0, 1, 2);
        }

        int arity() {
            return types.count();
        }

        int typeAt(int place) {
            return types.get(place, 0);
        }

        int argumentSet() {
            return (1 << types.count()) - 1;
        }

        int modeCount() {
            return modes.size();
        }

        Mode modeAt(int mode) {
            return mode >= 0 && mode < modes.size() ? modes.get(mode) : null;
        }

        int clauseCount() {
            return clauses.size();
        }

        Clause clauseAt(int place) {
            return place >= 0 && place < clauses.size() ? clauses.get(place) : null;
        }
    }

    /** All predicates, modes and clauses, and the compiler that looks through them. */
    private static final class Program {
        private final ArrayList<Predicate> predicates;
        private final ArrayList<Mode> modes;
        private final ArrayList<Clause> clauses;

        Program() {
            predicates = new ArrayList<>();
            modes = new ArrayList<>();
            clauses = new ArrayList<>();
        }

        int predicateCount() {
            return predicates.size();
        }

        int clauseCount() {
            return clauses.size();
        }

        Predicate predicateAt(int predicate) {
            return predicate >= 0 && predicate < predicates.size() ? predicates.get(predicate) : null;
        }

        Clause clauseAt(int clause) {
            return clause >= 0 && clause < clauses.size() ? clauses.get(clause) : null;
        }

        Mode modeAt(int predicate, int mode) {
            Predicate owner = predicateAt(predicate);
            return owner == null ? null : owner.modeAt(mode);
        }

        int newPredicate(int first, int second, int third) {
            predicates.add(new Predicate(predicates.size(), first, second, third));
            return predicates.size() - 1;
        }

        int newMode(Predicate owner, int inputs, char promise) {
            Mode mode = new Mode(owner, owner.modes.size(), inputs, promise);
            owner.modes.add(mode);
            modes.add(mode);
            return mode.number;
        }

        int newClause(Predicate owner) {
            Clause clause = new Clause(clauses.size(), owner);
            owner.clauses.add(clause);
            clauses.add(clause);
            return clause.number;
        }

        int faultCount() {
            int count = 0;
            for (int i = 0; i < modes.size(); i++) {
                count += modes.get(i).faultSign() == '-' ? 0 : 1;
            }
            return count;
        }

        int goodCount() {
            int count = 0;
            for (int i = 0; i < modes.size(); i++) {
                count += modes.get(i).good ? 1 : 0;
            }
            return count;
        }

        int onceCount() {
            int count = 0;
            for (int i = 0; i < modes.size(); i++) {
                count += modes.get(i).good && !modes.get(i).canRepeat ? 1 : 0;
            }
            return count;
        }

        void analyse(Terms store) {
            for (int i = 0; i < modes.size(); i++) {
                Mode mode = modes.get(i);
                mode.lost = !putInOrder(mode);
                mode.good = !mode.lost;
                mode.canFail = false;
                mode.canRepeat = false;
                mode.switchPlace = findSwitch(mode);
            }
            // Each round but the last one changes a mode, and a mode changes at most once.
            boolean isChanged = true;
            for (int round = 0; round <= modes.size() && isChanged; round++) {
                isChanged = spreadFaults();
            }
            // Here a mode changes at most twice.
            isChanged = true;
            for (int round = 0; round <= 2 * modes.size() && isChanged; round++) {
                isChanged = spreadFound(store);
            }
        }

        private boolean putInOrder(Mode mode) {
            boolean isWhole = true;
            for (int place = 0; place < mode.predicate.clauseCount(); place++) {
                Clause clause = mode.predicate.clauseAt(place);
                if (clause != null && !putClauseInOrder(clause, mode)) {
                    isWhole = false;
                }
            }
            return isWhole;
        }

        private boolean putClauseInOrder(Clause clause, Mode mode) {
            clause.clearOrder(mode.number);
            int known = mode.inputs;
            int taken = 0;
            for (int place = 0; place < clause.goalCount(); place++) {
                int number = nextGoal(clause, taken, known);
                Goal goal = clause.goalNumbered(number);
                if (goal == null) {
                    return false;
                }
                clause.takeNext(mode.number, number, chooseMode(goal, known), known);
                taken |= 1 << number;
                known |= goal.variableSet(0);
            }
            return (mode.predicate.argumentSet() & ~known) == 0;
        }

        private int nextGoal(Clause clause, int taken, int known) {
            for (int number = 0; number < clause.goalCount(); number++) {
                Goal goal = clause.goalNumbered(number);
                boolean isLeft = (taken >> number & 1) == 0;
                if (isLeft && goal != null && canBeTaken(goal, chooseMode(goal, known), known)) {
                    return number;
                }
            }
            return NONE;
        }

        private static boolean canBeTaken(Goal goal, Mode chosen, int known) {
            boolean isFirstKnown = (known >> goal.variableAt(0) & 1) == 1;
            switch (goal.kind) {
                case Goal.BUILD:
                    return isFirstKnown || (goal.variableSet(1) & ~known) == 0;
                case Goal.SAME:
                    return isFirstKnown || (known >> goal.variableAt(1) & 1) == 1;
                case Goal.CALL:
                    return chosen != null;
                default:
                    return chosen != null && (goal.variableSet(0) & ~known) == 0;
            }
        }

        /** The lowest mode of a call all of whose inputs have values, or null. */
        private Mode chooseMode(Goal goal, int known) {
            Predicate called = goal.isCalling() ? predicateAt(goal.subject) : null;
            int count = called == null ? 0 : called.modeCount();
            for (int number = 0; number < count; number++) {
                Mode mode = called.modeAt(number);
                if (mode != null && areInputsKnown(goal, mode, known)) {
                    return mode;
                }
            }
            return null;
        }

        private static boolean areInputsKnown(Goal goal, Mode mode, int known) {
            for (int place = 0; place < goal.count; place++) {
                if (mode.isInput(place) && (known >> goal.variableAt(place) & 1) == 0) {
                    return false;
                }
            }
            return true;
        }

        private static int findSwitch(Mode mode) {
            int found = NONE;
            int constructors = 0;
            for (int place = 0; place < mode.predicate.clauseCount(); place++) {
                Clause clause = mode.predicate.clauseAt(place);
                Goal goal = clause == null ? null : clause.goalIn(mode.number, 0);
                if (goal == null || goal.kind != Goal.BUILD || !mode.isInput(goal.variableAt(0))) {
                    return NONE;
                }
                boolean isOther = found != NONE && found != goal.variableAt(0);
                if (isOther || (constructors >> goal.subject & 1) == 1) {
                    return NONE;
                }
                found = goal.variableAt(0);
                constructors |= 1 << goal.subject;
            }
            return found;
        }

        private boolean spreadFaults() {
            boolean isChanged = false;
            for (int i = 0; i < modes.size(); i++) {
                Mode mode = modes.get(i);
                if (mode.good && choosesBad(mode)) {
                    mode.good = false;
                    isChanged = true;
                }
            }
            return isChanged;
        }

        private static boolean choosesBad(Mode mode) {
            for (int i = 0; i < mode.predicate.clauseCount(); i++) {
                Clause clause = mode.predicate.clauseAt(i);
                int places = clause == null ? 0 : clause.placeCount(mode.number);
                for (int place = 0; place < places; place++) {
                    Mode chosen = clause.chosenIn(mode.number, place);
                    if (chosen != null && !chosen.good) {
                        return true;
                    }
                }
            }
            return false;
        }

        private boolean spreadFound(Terms store) {
            boolean isChanged = false;
            for (int i = 0; i < modes.size(); i++) {
                Mode mode = modes.get(i);
                boolean fails = mode.good && (mode.canFail || canModeFail(mode, store));
                boolean repeats = mode.good && (mode.canRepeat || canModeRepeat(mode));
                if (fails != mode.canFail || repeats != mode.canRepeat) {
                    isChanged = true;
                }
                mode.canFail = fails;
                mode.canRepeat = repeats;
            }
            return isChanged;
        }

        private static boolean canModeFail(Mode mode, Terms store) {
            int failing = 0;
            for (int place = 0; place < mode.predicate.clauseCount(); place++) {
                failing += canClauseFail(mode.predicate.clauseAt(place), mode) ? 1 : 0;
            }
            if (mode.switchPlace != NONE) {
                return failing > 0 || !isTypeCovered(mode, store);
            }
            return failing == mode.predicate.clauseCount();
        }

        /** Whether each constructor of the type of a switch has a clause. */
        private static boolean isTypeCovered(Mode mode, Terms store) {
            int type = mode.predicate.typeAt(mode.switchPlace);
            int wanted = 0;
            for (int constructor = 0; constructor < store.constructorCount(); constructor++) {
                wanted += store.typeOfHead(constructor) == type ? 1 : 0;
            }
            // The constructors of the clauses are unlike and all of this type: counting them is enough.
            return wanted == mode.predicate.clauseCount();
        }

        private static boolean canModeRepeat(Mode mode) {
            int clauses = mode.predicate.clauseCount();
            if (mode.switchPlace == NONE && clauses > 1) {
                return true;
            }
            for (int place = 0; place < clauses; place++) {
                if (canClauseRepeat(mode.predicate.clauseAt(place), mode)) {
                    return true;
                }
            }
            return false;
        }

        private static boolean canClauseRepeat(Clause clause, Mode mode) {
            int places = clause == null ? 0 : clause.placeCount(mode.number);
            for (int place = 0; place < places; place++) {
                Goal goal = clause.goalIn(mode.number, place);
                Mode chosen = clause.chosenIn(mode.number, place);
                if (goal != null && goal.kind == Goal.CALL && chosen != null && chosen.canRepeat) {
                    return true;
                }
            }
            return false;
        }

        private static boolean canClauseFail(Clause clause, Mode mode) {
            int places = clause == null ? 0 : clause.placeCount(mode.number);
            for (int place = 0; place < places; place++) {
                Goal goal = clause.goalIn(mode.number, place);
                int known = clause.knownIn(mode.number, place);
                Mode chosen = clause.chosenIn(mode.number, place);
                boolean isSwitching = place == 0 && mode.switchPlace != NONE;
                if (goal != null && (isSwitching ? clashes(goal, null, known) : canGoalFail(goal, chosen, known))) {
                    return true;
                }
            }
            return false;
        }

        private static boolean canGoalFail(Goal goal, Mode chosen, int known) {
            boolean isFirstKnown = (known >> goal.variableAt(0) & 1) == 1;
            switch (goal.kind) {
                case Goal.BUILD:
                    return isFirstKnown;
                case Goal.SAME:
                    return isFirstKnown && (known >> goal.variableAt(1) & 1) == 1;
                case Goal.CALL:
                    return chosen != null && (chosen.canFail || clashes(goal, chosen, known));
                default:
                    return true;
            }
        }

        /** Whether an output of a call, or a part of a build (no mode), has a value or is one ahead of it. */
        private static boolean clashes(Goal goal, Mode chosen, int known) {
            int seen = known;
            for (int place = chosen == null ? 1 : 0; place < goal.count; place++) {
                if (chosen == null || !chosen.isInput(place)) {
                    if ((seen >> goal.variableAt(place) & 1) == 1) {
                        return true;
                    }
                    seen |= 1 << goal.variableAt(place);
                }
            }
            return false;
        }
    }

    /** What is kept of a question. */
    private static final class Report {
        private static final int SIGN = 0;
        private static final int WHERE = 1;

        private Mode mode;
        private final Table inputs;
        private final Table answers;
        private final Table notes;
        private int stepCount;
        private int choiceCount;
        private int deepestCall;
        private char end;
        private boolean isBreadthKnown;
        private int breadthCount;

        Report() {
            mode = null;
            inputs = new Table(1, ARGUMENTS);
            answers = new Table(ARGUMENTS, ANSWERS);
            notes = new Table(2, RECORD);
            end = 'e';
        }

        void begin(Mode question, int first, int second, int third) {
            mode = question;
            inputs.cut(0);
            for (int place = 0; place < ARGUMENTS; place++) {
                int given = pick(place, first, second, third);
                inputs.add(question.isInput(place) ? given : NONE, NONE, NONE);
            }
            answers.cut(0);
            notes.cut(0);
            stepCount = 0;
            choiceCount = 0;
            deepestCall = 0;
            end = 'e';
            isBreadthKnown = false;
            breadthCount = NONE;
        }

        /** The term for an input, or NONE for an output. */
        int inputAt(int place) {
            return inputs.get(place, 0);
        }

        void note(char sign, int predicate, int depth) {
            if (notes.count() < RECORD) {
                notes.add(sign, 100 * predicate + depth, NONE);
            }
        }

        int noteCount() {
            return notes.count();
        }

        char noteSign(int index) {
            return (char) notes.get(index, SIGN);
        }

        int notePlace(int index) {
            return notes.get(index, WHERE);
        }

        int answerCount() {
            return answers.count();
        }

        void addAnswer(int first, int second, int third) {
            answers.add(first, second, third);
        }

        boolean hasAnswer(int answer) {
            return answer >= 0 && answer < answers.count();
        }

        boolean hasArgument(int argument) {
            return mode != null && argument >= 0 && argument < mode.predicate.arity();
        }

        int answerPart(int answer, int argument) {
            return answers.get(answer, argument);
        }

        int countLike(int answer) {
            int count = 0;
            for (int other = 0; other < answers.count(); other++) {
                boolean isLike = true;
                for (int place = 0; place < ARGUMENTS; place++) {
                    isLike = isLike && answers.get(other, place) == answers.get(answer, place);
                }
                count += isLike ? 1 : 0;
            }
            return count;
        }
    }

    /** A call that the machine has made, with the values of the clause that is tried for it. */
    private static final class Frame {
        private final int number;
        private final int[] values;
        private Mode mode;
        private Frame caller;
        private int backTo;
        private int depth;
        private Clause clause;
        private boolean isDenied;
        private Frame outerDenied;
        private int choicesBefore;

        Frame(int number, Mode mode) {
            this.number = number;
            this.mode = mode;
            values = new int[VARIABLES];
        }

        void begin(Mode called, Frame from, int place) {
            Arrays.fill(values, NONE);
            mode = called;
            caller = from;
            backTo = place;
            depth = from == null ? 1 : from.depth + 1;
            clause = null;
            isDenied = false;
            outerDenied = null;
            choicesBefore = 0;
        }

        int valueOf(int variable) {
            return variable >= 0 && variable < values.length ? values[variable] : NONE;
        }

        void setValue(int variable, int value) {
            if (variable >= 0 && variable < values.length) {
                values[variable] = value;
            }
        }
    }

    /** The machine with choice points and a trail. */
    private static final class Machine {
        // The columns of choices, and of the trail.
        private static final int FRAME = 0;
        private static final int CLAUSE = 1;
        private static final int TRAIL = 2;
        private static final int VARIABLE = 1;

        private final Terms store;
        /** Frames are used again only by the next question: what the trail tells of them stays true. */
        private final ArrayList<Frame> frames;
        private final Table choices;
        private final Table trail;
        private Report report;
        private int used;
        private Frame current;
        private int place;
        /** The innermost denied call that is not over. */
        private Frame denied;
        private boolean isFailing;
        private boolean isOver;
        private boolean isFull;

        Machine(Terms store, Report report) {
            this.store = store;
            this.report = report;
            frames = new ArrayList<>();
            choices = new Table(3, DEPTH);
            trail = new Table(2, DEPTH);
        }

        /** Answers a question; false if there are not enough numbers for its terms. */
        boolean run(Mode question, Report sheet) {
            int termsBefore = store.termCount();
            begin(question, sheet);
            for (int turn = 0; turn < MANY && !isOver; turn++) {
                Frame frame = current;
                if (isFailing || frame == null || frame.clause == null) {
                    goBack();
                } else if (place >= frame.clause.placeCount(frame.mode.number)) {
                    leave(frame);
                } else {
                    beginGoal(frame, frame.clause.goalIn(frame.mode.number, place));
                }
            }
            if (isFull) {
                store.forgetFrom(termsBefore);
            }
            return !isFull;
        }

        private void begin(Mode asked, Report sheet) {
            report = sheet;
            choices.cut(0);
            trail.cut(0);
            used = 0;
            current = null;
            place = 0;
            denied = null;
            isFailing = false;
            isOver = false;
            isFull = false;
            Frame question = newFrame(asked, null);
            for (int argument = 0; argument < ARGUMENTS; argument++) {
                question.setValue(argument, sheet.inputAt(argument));
            }
            enter(question);
        }

        private Frame newFrame(Mode called, Frame from) {
            if (used < 0 || used >= frames.size()) {
                used = frames.size();
                frames.add(new Frame(used, called));
            }
            Frame frame = frames.get(used);
            used++;
            frame.begin(called, from, place);
            return frame;
        }

        private void finish(char end) {
            report.end = end;
            isOver = true;
        }

        private void enter(Frame frame) {
            Predicate called = frame.mode.predicate;
            report.note('c', called.number, frame.depth);
            report.deepestCall = Math.max(report.deepestCall, frame.depth);
            Clause first = firstClause(frame);
            if (first == null) {
                report.note('f', called.number, frame.depth);
                isFailing = true;
                return;
            }
            if (frame.mode.switchPlace == NONE && called.clauseCount() > 1) {
                choices.add(frame.number, 1, trail.count());
                report.choiceCount++;
            }
            tryClause(frame, first);
        }

        private Clause firstClause(Frame frame) {
            Mode mode = frame.mode;
            if (mode.switchPlace == NONE) {
                return mode.predicate.clauseAt(0);
            }
            int head = store.headOf(frame.valueOf(mode.switchPlace));
            for (int i = 0; i < mode.predicate.clauseCount(); i++) {
                Clause clause = mode.predicate.clauseAt(i);
                Goal goal = clause == null ? null : clause.goalIn(mode.number, 0);
                if (goal != null && goal.subject == head) {
                    return clause;
                }
            }
            return null;
        }

        private void tryClause(Frame frame, Clause clause) {
            frame.clause = clause;
            current = frame;
            place = 0;
        }

        private void goBack() {
            isFailing = false;
            Frame over = denied;
            if (over != null && choices.count() <= over.choicesBefore) {
                // The denied call has no answer: it holds.
                denied = over.outerDenied;
                current = over.caller;
                place = over.backTo + 1;
                return;
            }
            int choice = choices.count() - 1;
            Frame frame = frameAt(choices.get(choice, FRAME));
            if (frame == null) {
                finish('e');
                return;
            }
            undo(choices.get(choice, TRAIL));
            Predicate called = frame.mode.predicate;
            int next = choices.get(choice, CLAUSE);
            choices.set(choice, CLAUSE, next + 1);
            if (next + 1 >= called.clauseCount()) {
                choices.cut(choice);
            }
            report.note('r', called.number, frame.depth);
            tryClause(frame, called.clauseAt(next));
        }

        private Frame frameAt(int number) {
            return number >= 0 && number < frames.size() ? frames.get(number) : null;
        }

        private void undo(int length) {
            for (int entry = trail.count() - 1; entry >= length && entry >= 0; entry--) {
                Frame frame = frameAt(trail.get(entry, FRAME));
                if (frame != null) {
                    frame.setValue(trail.get(entry, VARIABLE), NONE);
                }
            }
            trail.cut(length);
        }

        private void leave(Frame frame) {
            report.note('x', frame.mode.predicate.number, frame.depth);
            if (frame.caller == null) {
                addAnswer(frame);
            } else if (frame.isDenied) {
                if (handsBack(frame, frame.caller)) {
                    choices.cut(frame.choicesBefore);
                    denied = frame.outerDenied;
                }
                isFailing = true;
            } else {
                current = frame.caller;
                place = frame.backTo + 1;
                isFailing = !handsBack(frame, frame.caller);
            }
        }

        private void addAnswer(Frame frame) {
            if (report.answerCount() >= ANSWERS) {
                finish('l');
                return;
            }
            int arity = frame.mode.predicate.arity();
            int first = arity > 0 ? frame.valueOf(0) : NONE;
            int second = arity > 1 ? frame.valueOf(1) : NONE;
            int third = arity > 2 ? frame.valueOf(2) : NONE;
            report.addAnswer(first, second, third);
            isFailing = true;
        }

        /** Gives the outputs of a call to its caller; false if they are unlike what is there. */
        private boolean handsBack(Frame frame, Frame caller) {
            Goal goal = caller.clause == null ? null : caller.clause.goalIn(caller.mode.number, frame.backTo);
            int arguments = goal == null ? 0 : goal.count;
            for (int argument = 0; argument < arguments; argument++) {
                boolean isOutput = !frame.mode.isInput(argument);
                if (isOutput && !agrees(caller, goal.variableAt(argument), frame.valueOf(argument))) {
                    return false;
                }
            }
            return true;
        }

        /** Gives a variable a value if it has none; false if it has another one. */
        private boolean agrees(Frame frame, int variable, int value) {
            if (frame.valueOf(variable) == NONE) {
                frame.setValue(variable, value);
                trail.add(frame.number, variable, NONE);
            }
            return frame.valueOf(variable) == value;
        }

        private void beginGoal(Frame frame, Goal goal) {
            if (goal == null || report.stepCount >= STEPS) {
                finish('l');
                return;
            }
            report.stepCount++;
            if (goal.isCalling()) {
                beginCall(frame, goal);
                return;
            }
            int x = goal.variableAt(0);
            int y = goal.variableAt(1);
            if (goal.kind == Goal.SAME) {
                boolean isToRight = frame.valueOf(x) != NONE;
                int value = frame.valueOf(isToRight ? x : y);
                isFailing = !agrees(frame, isToRight ? y : x, value);
            } else if (frame.valueOf(x) == NONE) {
                build(frame, goal);
            } else {
                isFailing = !comesApart(frame, goal, frame.valueOf(x));
            }
            place++;
        }

        private void beginCall(Frame frame, Goal goal) {
            Mode chosen = frame.clause == null ? null : frame.clause.chosenIn(frame.mode.number, place);
            if (chosen == null || frame.depth >= DEPTH) {
                finish('l');
                return;
            }
            Frame callee = newFrame(chosen, frame);
            for (int argument = 0; argument < goal.count; argument++) {
                if (chosen.isInput(argument)) {
                    callee.setValue(argument, frame.valueOf(goal.variableAt(argument)));
                }
            }
            if (goal.kind == Goal.DENIED) {
                callee.isDenied = true;
                callee.outerDenied = denied;
                callee.choicesBefore = choices.count();
                denied = callee;
            }
            enter(callee);
        }

        private void build(Frame frame, Goal goal) {
            int first = goal.count > 1 ? frame.valueOf(goal.variableAt(1)) : 0;
            int second = goal.count > 2 ? frame.valueOf(goal.variableAt(2)) : 0;
            int term = store.make(goal.subject, first, second);
            if (term == NONE) {
                isFull = true;
                isOver = true;
                return;
            }
            agrees(frame, goal.variableAt(0), term);
        }

        private boolean comesApart(Frame frame, Goal goal, int term) {
            if (store.headOf(term) != goal.subject) {
                return false;
            }
            for (int part = 1; part < goal.count; part++) {
                if (!agrees(frame, goal.variableAt(part), store.part(term, part - 1))) {
                    return false;
                }
            }
            return true;
        }
    }

    /** Questions by breadth: lists of goals, each with what is known of the unknowns since the list ahead of it. */
    private static final class Breadth {
        // The columns of nodes.
        private static final int HEAD = 0;
        private static final int FIRST = 1;
        private static final int SECOND = 2;
        private static final int BOUND = 3;
        private static final int MARK = 4;

        // The columns of cells.
        private static final int GOAL = 0;
        private static final int BASE = 1;
        private static final int NEXT = 2;

        // The columns of lists and, with the last two, of the row.
        private static final int PARENT = 0;
        private static final int FROM = 1;
        private static final int TO = 2;
        private static final int CELL = 3;
        private static final int CALL = 4;
        private static final int CLAUSE = 5;

        // The columns of levels.
        private static final int ROW_FRONT = 0;
        private static final int ROW_END = 1;
        private static final int WAITING = 2;
        private static final int REST = 3;

        // The columns of work, when nodes are marked, and the marks.
        private static final int NODE = 0;
        private static final int PART = 1;
        private static final int SIGN = 2;
        private static final int UNDERWAY = 0;
        private static final int GROUND = 1;
        private static final int UNKNOWN = 2;
        private static final int SIGNS = 3;

        /** Behind the goals of all clauses: the question of a predicate, as a goal. */
        private static final int QUESTIONS = CLAUSES * GOALS;

        private final Program program;
        private final Terms store;
        /** Unknowns (no head) and terms; those ahead of groundCount are the terms with numbers. */
        private final Table nodes;
        private int groundCount;
        /** The nodes of the variables of each clause that was opened. */
        private final Table variables;
        /** Goals, each with the one behind it: lists have the ends of their chains in common. */
        private final Table cells;
        /** The lists that were taken off, each with its parent and what was bound between both. */
        private final Table lists;
        /** What is in the row: a list, or for a call one list for each clause from a clause on. */
        private final Table row;
        private int front;
        /** What was bound to what, kept for the lists that it holds in. */
        private final Table bindings;
        /** The questions that wait for a denied call of theirs. */
        private final Table levels;
        private final Table work;
        private int taken;
        /** The list whose bindings stand in the nodes. */
        private int restored;
        /** Marks of earlier rounds count as none. */
        private int round;

        Breadth(Program program, Terms store) {
            this.program = program;
            this.store = store;
            nodes = new Table(5, 64);
            variables = new Table(1, 64);
            cells = new Table(3, 64);
            lists = new Table(4, 64);
            row = new Table(6, 64);
            bindings = new Table(2, 64);
            levels = new Table(4, 8);
            work = new Table(3, 64);
        }

        /** The number of answers of a question, or NONE if it cannot be answered by breadth. */
        int count(Report report) {
            if (report.mode == null) {
                return NONE;
            }
            begin(report.mode.predicate, report);
            int answers = 0;
            for (int turn = 0; turn < MANY; turn++) {
                if (front >= row.count()) {
                    if (levels.count() == 0) {
                        return answers;
                    }
                    endDenied(true);
                } else if (taken >= LISTS) {
                    return NONE;
                } else {
                    int list = takeOff();
                    if (lists.get(list, CELL) != NONE) {
                        resolve(list);
                    } else if (levels.count() == 0) {
                        answers++;
                    } else {
                        endDenied(false);
                    }
                }
            }
            return NONE;
        }

        private void begin(Predicate asked, Report report) {
            nodes.cut(0);
            variables.cut(0);
            cells.cut(0);
            lists.cut(0);
            row.cut(0);
            bindings.cut(0);
            levels.cut(0);
            front = 0;
            taken = 0;
            restored = NONE;
            round = 0;
            for (int term = 0; term < store.termCount(); term++) {
                nodes.add(store.headOf(term), store.part(term, 0), store.part(term, 1));
            }
            groundCount = nodes.count();
            for (int place = 0; place < asked.arity(); place++) {
                int given = report.inputAt(place);
                variables.add(given != NONE ? given : newUnknown(), NONE, NONE);
            }
            putQuestion(asked.number, 0, NONE);
        }

        private int newUnknown() {
            return nodes.add(NONE, NONE, NONE);
        }

        private void putQuestion(int predicate, int base, int parent) {
            addToRow(parent, 0, 0, cells.add(QUESTIONS + predicate, base, NONE), NONE);
        }

        private void addToRow(int parent, int from, int to, int cell, int call) {
            int line = row.add(parent, from, to);
            row.set(line, CELL, cell);
            row.set(line, CALL, call);
            row.set(line, CLAUSE, 0);
        }

        private Goal goalOf(int cell) {
            int number = cells.get(cell, GOAL);
            if (number >= QUESTIONS) {
                Predicate asked = program.predicateAt(number - QUESTIONS);
                return asked == null ? null : asked.question;
            }
            Clause clause = number < 0 ? null : program.clauseAt(number / GOALS);
            return clause == null ? null : clause.goalNumbered(number % GOALS);
        }

        private int nodeOf(Goal goal, int base, int place) {
            return variables.get(base + goal.variableAt(place), 0);
        }

        private int takeOff() {
            taken++;
            int call = row.get(front, CALL);
            int list = lists.add(row.get(front, PARENT), row.get(front, FROM), row.get(front, TO));
            lists.set(list, CELL, row.get(front, CELL));
            Goal goal = goalOf(call);
            Predicate called = goal == null ? null : program.predicateAt(goal.subject);
            int place = row.get(front, CLAUSE);
            Clause clause = called == null ? null : called.clauseAt(place);
            if (clause == null) {
                front++;
                return list;
            }
            lists.set(list, CELL, openClause(clause, goal, cells.get(call, BASE), row.get(front, CELL)));
            row.set(front, CLAUSE, place + 1);
            if (place + 1 >= called.clauseCount()) {
                front++;
            }
            return list;
        }

        /** Puts the goals of a clause ahead of the rest; its arguments are those of the call. */
        private int openClause(Clause clause, Goal call, int callBase, int rest) {
            int base = variables.count();
            for (int variable = 0; variable < VARIABLES; variable++) {
                int node = NONE;
                if (variable < call.count) {
                    node = nodeOf(call, callBase, variable);
                } else if (clause.typeAt(variable) != NONE) {
                    node = newUnknown();
                }
                variables.add(node, NONE, NONE);
            }
            int cell = rest;
            for (int goal = clause.goalCount() - 1; goal >= 0; goal--) {
                cell = cells.add(clause.number * GOALS + goal, base, cell);
            }
            return cell;
        }

        private void resolve(int list) {
            restore(list);
            int cell = firstToResolve(lists.get(list, CELL));
            Goal goal = goalOf(cell);
            if (goal == null) {
                return;
            }
            int rest = without(lists.get(list, CELL), cell);
            int base = cells.get(cell, BASE);
            if (goal.kind == Goal.CALL) {
                Predicate called = program.predicateAt(goal.subject);
                if (called != null && called.clauseCount() > 0) {
                    addToRow(list, 0, 0, rest, cell);
                }
            } else if (goal.kind == Goal.DENIED) {
                beginDenied(list, rest, goal, base);
            } else {
                int from = bindings.count();
                int left = nodeOf(goal, base, 0);
                boolean isEqual = unify(left, rightSide(goal, base)) && isFinite(left);
                bind(from, bindings.count(), false);
                if (isEqual) {
                    addToRow(list, from, bindings.count(), rest, NONE);
                } else {
                    bindings.cut(from);
                }
            }
        }

        private void bind(int from, int to, boolean isBound) {
            for (int line = from; line < to; line++) {
                nodes.set(bindings.get(line, 0), BOUND, isBound ? bindings.get(line, 1) : NONE);
            }
        }

        private int rightSide(Goal goal, int base) {
            if (goal.kind == Goal.SAME) {
                return nodeOf(goal, base, 1);
            }
            int first = goal.count > 1 ? nodeOf(goal, base, 1) : NONE;
            int second = goal.count > 2 ? nodeOf(goal, base, 2) : NONE;
            return nodes.add(goal.subject, first, second);
        }

        /** Binds just what is bound in a list. */
        private void restore(int list) {
            bindPath(restored, false);
            bindPath(list, true);
            restored = list;
            round++;
        }

        private void bindPath(int list, boolean isBound) {
            int at = list;
            for (int looked = 0; looked < LISTS && at != NONE; looked++) {
                bind(lists.get(at, FROM), lists.get(at, TO), isBound);
                at = lists.get(at, PARENT);
            }
        }

        private int firstToResolve(int head) {
            int cell = head;
            for (int looked = 0; looked < MANY && cell != NONE; looked++) {
                Goal goal = goalOf(cell);
                if (goal != null && (goal.kind != Goal.DENIED || isGround(goal, cells.get(cell, BASE)))) {
                    return cell;
                }
                cell = cells.get(cell, NEXT);
            }
            return NONE;
        }

        /** The chain without one of its cells: what is ahead of it is copied, what is behind it is in common. */
        private int without(int head, int cell) {
            int rest = cells.get(cell, NEXT);
            int first = rest;
            int latest = NONE;
            int at = head;
            for (int looked = 0; looked < MANY && at != cell && at != NONE; looked++) {
                int copy = cells.add(cells.get(at, GOAL), cells.get(at, BASE), rest);
                if (latest == NONE) {
                    first = copy;
                }
                cells.set(latest, NEXT, copy);
                latest = copy;
                at = cells.get(at, NEXT);
            }
            return first;
        }

        private void beginDenied(int list, int rest, Goal goal, int base) {
            int level = levels.add(front, row.count(), list);
            levels.set(level, REST, rest);
            front = row.count();
            int asked = variables.count();
            for (int place = 0; place < goal.count; place++) {
                variables.add(nodeOf(goal, base, place), NONE, NONE);
            }
            putQuestion(goal.subject, asked, list);
        }

        private void endDenied(boolean holds) {
            int level = levels.count() - 1;
            row.cut(levels.get(level, ROW_END));
            front = levels.get(level, ROW_FRONT);
            if (holds) {
                addToRow(levels.get(level, WAITING), 0, 0, levels.get(level, REST), NONE);
            }
            levels.cut(level);
        }

        /** What a node is bound to in the end. */
        private int find(int node) {
            int at = node;
            int next = nodes.get(at, BOUND);
            for (int looked = 0; looked < MANY && next != NONE; looked++) {
                at = next;
                next = nodes.get(at, BOUND);
            }
            return at;
        }

        private boolean unify(int left, int right) {
            work.cut(0);
            work.add(left, right, NONE);
            for (int turn = 0; turn < MANY && work.count() > 0; turn++) {
                int line = work.count() - 1;
                int first = find(work.get(line, 0));
                int second = find(work.get(line, 1));
                work.cut(line);
                if (first != second && !join(Math.min(first, second), Math.max(first, second))) {
                    return false;
                }
            }
            return true;
        }

        private boolean join(int low, int high) {
            int lowHead = nodes.get(low, HEAD);
            int highHead = nodes.get(high, HEAD);
            boolean areBuilt = lowHead != NONE && highHead != NONE;
            // Two numbered terms are never the same one: so they stay unbound, whatever comes.
            if (areBuilt && (lowHead != highHead || high < groundCount)) {
                return false;
            }
            boolean isUpward = lowHead == NONE && highHead != NONE;
            int from = isUpward ? low : high;
            int to = isUpward ? high : low;
            nodes.set(from, BOUND, to);
            bindings.add(from, to, NONE);
            int parts = areBuilt ? store.partCount(lowHead) : 0;
            for (int part = 0; part < parts; part++) {
                int column = part == 0 ? FIRST : SECOND;
                work.add(nodes.get(low, column), nodes.get(high, column), NONE);
            }
            return true;
        }

        private boolean isGround(Goal goal, int base) {
            for (int place = 0; place < goal.count; place++) {
                int node = find(nodeOf(goal, base, place));
                if (markOf(node) == NONE) {
                    scan(node);
                }
                if (markOf(node) != GROUND) {
                    return false;
                }
            }
            return true;
        }

        /** Whether nothing in a node contains itself; all that was joined lately is in it. */
        private boolean isFinite(int node) {
            round++;
            return scan(find(node));
        }

        private int markOf(int node) {
            int mark = nodes.get(node, MARK) - SIGNS * round;
            return node < groundCount ? GROUND : Math.max(mark, NONE);
        }

        private void setMark(int node, int mark) {
            nodes.set(node, MARK, SIGNS * round + mark);
        }

        /** Marks all that is in a node as ground or not; false if something there contains itself. */
        private boolean scan(int start) {
            work.cut(0);
            work.add(start, 0, GROUND);
            for (int turn = 0; turn < MANY && work.count() > 0; turn++) {
                int line = work.count() - 1;
                int node = work.get(line, NODE);
                int part = work.get(line, PART);
                int head = nodes.get(node, HEAD);
                if (part >= store.partCount(head)) {
                    setMark(node, head == NONE ? UNKNOWN : work.get(line, SIGN));
                    work.cut(line);
                    continue;
                }
                setMark(node, UNDERWAY);
                int child = find(nodes.get(node, part == 0 ? FIRST : SECOND));
                int mark = markOf(child);
                if (mark == UNDERWAY) {
                    return false;
                }
                if (mark == NONE) {
                    work.add(child, 0, GROUND);
                } else {
                    work.set(line, PART, part + 1);
                    work.set(line, SIGN, Math.max(mark, work.get(line, SIGN)));
                }
            }
            return true;
        }
    }
}
