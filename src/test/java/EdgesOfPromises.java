import java.io.IOException;
import java.lang.reflect.Method;
import java.util.function.Function;

/** The edges that promises 1 to 35 name: at least one test for each line that names one. */
public final class EdgesOfPromises extends Edge {
    @Says(promise = 1, value = "Creates a language without types and predicates, which is not compiled")
    static void aNewObjectIsEmpty() {
        due(IO, () -> new ModedMill().addConstructor(0, -1, -1));
        due(IO, () -> new ModedMill().addPredicate(0, -1, -1));
        due(IO, () -> new ModedMill().term(0, 0, 0));
        due(IO, () -> new ModedMill().constructorOf(0));
        due(IO, () -> new ModedMill().addMode(0, 0, 'n'));
        due(IO, () -> new ModedMill().addClause(0));
        due(IO, () -> new ModedMill().addSame(0, 0, 0));
        due(IO, () -> new ModedMill().fault(0, 0));
        due(IO, () -> new ModedMill().ask(0, 0, 0, 0, 0));
        due(IS, () -> new ModedMill().open());
        due(IS, () -> new ModedMill().onceShare());
        due(AR, () -> new ModedMill().meanSteps());
        due(0, () -> new ModedMill().terms());
        due(0, () -> new ModedMill().compile());
        for (Call call : looks(new ModedMill())) due(NS, call);
    }

    @Says(promise = 2, value = "if there are 3 types")
    static void aFourthTypeIsRefused() {
        ModedMill m = new ModedMill();
        m.addType();
        m.addType();
        due(2, m::addType);
        due(IS, m::addType);
        due(IS, m::addType);
    }

    @Says(promise = 2, value = "or all is compiled")
    static void noTypeIsAddedWhenAllIsCompiled() {
        ModedMill m = new ModedMill();
        m.compile();
        due(IS, m::addType);
        m.open();
        due(0, m::addType);
    }

    @Says(promise = 2, value = "Returns the number of the type.")
    static void addTypeTellsTheNumber() {
        ModedMill m = new ModedMill();
        due(0, m::addType);
        due(1, m::addType);
        due(0, () -> m.addConstructor(1, -1, -1));
        due(2, m::addType);
    }

    @Says(promise = 3, value = "if its own type is not there")
    static void aConstructorNeedsItsType() {
        ModedMill m = new ModedMill();
        due(IO, () -> m.addConstructor(0, -1, -1));
        m.addType();
        for (int type : new int[] {-1, 1, 3, LEAST, MOST}) due(IO, () -> m.addConstructor(type, -1, -1));
        due(0, () -> m.addConstructor(0, -1, -1));
    }

    @Says(promise = 3, value = "or the type of a part is neither -1 nor there")
    static void aConstructorNeedsTheTypesOfItsParts() {
        ModedMill m = new ModedMill();
        m.addType();
        for (int type : new int[] {-2, 1, 3, LEAST, MOST}) {
            due(IO, () -> m.addConstructor(0, type, -1));
            due(IO, () -> m.addConstructor(0, type, 0));
            due(IO, () -> m.addConstructor(0, 0, type));
        }
        due(0, () -> m.addConstructor(0, 0, -1));
        due(1, () -> m.addConstructor(0, 0, 0));
    }

    @Says(promise = 3, value = "if it has a second part without a first one")
    static void aSecondPartNeedsAFirstOne() {
        ModedMill m = new ModedMill();
        m.addType();
        due(IA, () -> m.addConstructor(0, -1, 0));
        due(0, () -> m.addConstructor(0, -1, -1));
        due(1, () -> m.addConstructor(0, 0, -1));
        due(2, () -> m.addConstructor(0, 0, 0));
    }

    @Says(promise = 3, value = "if there are 10 constructors")
    static void anEleventhConstructorIsRefused() {
        ModedMill m = new ModedMill();
        m.addType();
        m.addType();
        for (int i = 0; i < 9; i++) m.addConstructor(0, i == 0 ? -1 : 0, -1);
        due(9, () -> m.addConstructor(1, 0, 1));
        due(IS, () -> m.addConstructor(1, -1, -1));
        due(IS, () -> m.addConstructor(0, 0, 0));
    }

    @Says(promise = 3, value = "or all is compiled")
    static void noConstructorIsAddedWhenAllIsCompiled() {
        ModedMill m = numbers();
        m.compile();
        due(IS, () -> m.addConstructor(0, -1, -1));
        m.open();
        due(2, () -> m.addConstructor(0, -1, -1));
    }

    @Says(promise = 3, value = "or -1 if it has none")
    static void partsMayBeNone() {
        ModedMill m = pairs();
        due(0, () -> m.term(0, 0, 0));
        due(NS, () -> m.partOf(0, 0));
        due(1, () -> m.term(1, 0, 0));
        due(0, () -> m.partOf(1, 0));
        due(NS, () -> m.partOf(1, 1));
        due(2, () -> m.term(2, 0, 1));
        due(1, () -> m.partOf(2, 1));
    }

    @Says(promise = 4, value = "if there is no such constructor")
    static void aTermNeedsItsConstructor() {
        ModedMill m = numbers();
        for (int c : new int[] {-1, 2, 10, LEAST, MOST}) due(IO, () -> m.term(c, 0, 0));
        due(0, () -> m.term(0, 0, 0));
        due(1, () -> m.term(1, 0, 0));
    }

    @Says(promise = 4, value = "or no such term for a part that it has")
    static void aTermNeedsItsParts() {
        ModedMill m = pairs();
        due(IO, () -> m.term(1, 0, 0));
        due(IO, () -> m.term(2, 0, 0));
        due(0, () -> m.term(0, 0, 0));
        for (int part : new int[] {-1, 1, 200, LEAST, MOST}) {
            due(IO, () -> m.term(1, part, 0));
            due(IO, () -> m.term(2, part, 0));
            due(IO, () -> m.term(2, 0, part));
            // A part that it does not have is no such part.
            due(IA, () -> m.term(0, part, 0));
            due(IA, () -> m.term(0, 0, part));
            due(IA, () -> m.term(1, 0, part));
        }
        due(1, () -> m.term(2, 0, 0));
    }

    @Says(promise = 4, value = "if a part is of another type than it must be")
    static void aTermNeedsPartsOfItsTypes() {
        ModedMill m = lists();
        int zero = m.term(0, 0, 0);
        int nil = m.term(2, 0, 0);
        due(IA, () -> m.term(1, nil, 0));
        due(IA, () -> m.term(3, nil, nil));
        due(IA, () -> m.term(3, zero, zero));
        due(IA, () -> m.term(3, nil, zero));
        due(2, () -> m.term(3, zero, nil));
        due(3, () -> m.term(1, zero, 0));
    }

    @Says(promise = 4, value = "or a part that it does not have is not 0")
    static void partsThatAreNotThereAreZero() {
        ModedMill m = numbers();
        due(IA, () -> m.term(0, 1, 0));
        due(IA, () -> m.term(0, 0, 1));
        due(IA, () -> m.term(0, -1, -1));
        due(0, () -> m.term(0, 0, 0));
        due(IA, () -> m.term(1, 0, 1));
        due(IA, () -> m.term(1, 0, -1));
        due(1, () -> m.term(1, 0, 0));
    }

    @Says(promise = 4, value = "if it is new, and 200 terms have numbers")
    static void aNewTermNeedsANumber() {
        ModedMill m = numbers();
        predicate(m, 0, 0, -1, "1n");
        clause(m, 0, "build 1 1 0");
        m.compile();
        number(m, 198);
        // The last number goes to what the machine makes.
        due(1, () -> m.ask(0, 0, 198, 0, 0));
        due(200, m::terms);
        due(IS, () -> m.term(1, 199, 0));
        due(199, () -> m.term(1, 198, 0));
        due(0, () -> m.term(0, 0, 0));
    }

    @Says(promise = 4, value = "its first part, 0 if it has none")
    static void theFirstPartMayBeNone() {
        // Its 0 is not the term 0, which is not there yet.
        ModedMill m = pairs();
        due(IA, () -> m.term(0, 1, 0));
        due(0, () -> m.term(0, 0, 0));
        due(IA, () -> m.term(0, 1, 0));
    }

    @Says(promise = 4, value = "its second part, 0 if it has none")
    static void theSecondPartMayBeNone() {
        ModedMill m = pairs();
        due(0, () -> m.term(0, 0, 0));
        due(1, () -> m.term(1, 0, 0));
        due(2, () -> m.term(2, 0, 0));
        due(IA, () -> m.term(1, 0, 1));
        due(3, () -> m.term(2, 0, 1));
        due(4, () -> m.term(1, 1, 0));
    }

    @Says(promise = 5, value = "if there is no such term")
    static void constructorOfNeedsATerm() {
        ModedMill m = numbers();
        due(IO, () -> m.constructorOf(0));
        number(m, 1);
        for (int term : new int[] {-1, 2, 200, LEAST, MOST}) due(IO, () -> m.constructorOf(term));
        due(0, () -> m.constructorOf(0));
        due(1, () -> m.constructorOf(1));
    }

    @Says(promise = 6, value = "if there is no such term")
    static void partOfNeedsATerm() {
        ModedMill m = numbers();
        due(IO, () -> m.partOf(0, 0));
        number(m, 1);
        for (int term : new int[] {-1, 2, 200, LEAST, MOST}) due(IO, () -> m.partOf(term, 0));
        due(0, () -> m.partOf(1, 0));
    }

    @Says(promise = 6, value = "if it has no such part")
    static void partOfNeedsAPart() {
        ModedMill m = pairs();
        m.term(0, 0, 0);
        m.term(1, 0, 0);
        m.term(2, 1, 0);
        for (int index : new int[] {-1, 2, 3, LEAST, MOST}) {
            for (int t = 0; t < 3; t++) {
                int term = t;
                due(NS, () -> m.partOf(term, index));
            }
        }
        due(NS, () -> m.partOf(0, 0));
        due(NS, () -> m.partOf(0, 1));
        due(0, () -> m.partOf(1, 0));
        due(NS, () -> m.partOf(1, 1));
        due(1, () -> m.partOf(2, 0));
        due(0, () -> m.partOf(2, 1));
    }

    @Says(promise = 7, value = "Returns how many constructors are in a term, as often as they stand there")
    static void sizesCountEachStanding() {
        ModedMill m = pairs();
        m.term(0, 0, 0);
        m.term(2, 0, 0);
        m.term(2, 1, 1);
        m.term(1, 2, 0);
        m.term(2, 3, 0);
        long[] sizes = {1, 3, 7, 8, 10};
        for (int t = 0; t < 5; t++) {
            int term = t;
            due(sizes[t], () -> m.sizeOf(term));
        }
    }

    @Says(promise = 7, value = "as a long that goes round")
    static void sizesGoRound() {
        ModedMill m = pairs();
        m.term(0, 0, 0);
        for (int i = 0; i < 70; i++) m.term(2, i, i);
        due((1L << 32) - 1, () -> m.sizeOf(31));
        due(Long.MAX_VALUE, () -> m.sizeOf(62));
        due(-1L, () -> m.sizeOf(63));
        due(-1L, () -> m.sizeOf(70));
        due(Long.MIN_VALUE, () -> m.sizeOf(m.term(1, 62, 0)));
        due(0L, () -> m.sizeOf(m.term(1, 63, 0)));
        due(1L, () -> m.sizeOf(m.term(1, 72, 0)));
        due(Long.MAX_VALUE, () -> m.sizeOf(m.term(2, 62, 63)));
    }

    @Says(promise = 7, value = "if there is no such term")
    static void sizeOfNeedsATerm() {
        ModedMill m = numbers();
        due(IO, () -> m.sizeOf(0));
        number(m, 1);
        for (int term : new int[] {-1, 2, 200, LEAST, MOST}) due(IO, () -> m.sizeOf(term));
        due(2L, () -> m.sizeOf(1));
    }

    @Says(promise = 8, value = "if there is no such type, for any that is not -1")
    static void aPredicateNeedsItsTypes() {
        ModedMill m = numbers();
        for (int type : new int[] {-2, 1, 3, LEAST, MOST}) {
            due(IO, () -> m.addPredicate(type, -1, -1));
            due(IO, () -> m.addPredicate(0, type, -1));
            due(IO, () -> m.addPredicate(0, 0, type));
        }
        due(IO, () -> new ModedMill().addPredicate(0, -1, -1));
        due(0, () -> m.addPredicate(0, 0, 0));
        due(1, () -> m.addPredicate(-1, -1, -1));
    }

    @Says(promise = 8, value = "if it has an argument behind one that it does not have")
    static void argumentsStandTogether() {
        ModedMill m = numbers();
        due(IA, () -> m.addPredicate(-1, 0, -1));
        due(IA, () -> m.addPredicate(-1, -1, 0));
        due(IA, () -> m.addPredicate(-1, 0, 0));
        due(IA, () -> m.addPredicate(0, -1, 0));
        due(0, () -> m.addPredicate(-1, -1, -1));
        due(1, () -> m.addPredicate(0, -1, -1));
        due(2, () -> m.addPredicate(0, 0, -1));
        due(3, () -> m.addPredicate(0, 0, 0));
    }

    @Says(promise = 8, value = "if there are 5 predicates")
    static void aSixthPredicateIsRefused() {
        ModedMill m = new ModedMill();
        for (int p = 0; p < 4; p++) m.addPredicate(-1, -1, -1);
        due(4, () -> m.addPredicate(-1, -1, -1));
        due(IS, () -> m.addPredicate(-1, -1, -1));
    }

    @Says(promise = 8, value = "or all is compiled")
    static void noPredicateIsAddedWhenAllIsCompiled() {
        ModedMill m = new ModedMill();
        m.compile();
        due(IS, () -> m.addPredicate(-1, -1, -1));
        m.open();
        due(0, () -> m.addPredicate(-1, -1, -1));
    }

    @Says(promise = 8, value = "the type of its second argument, or -1")
    static void argumentsMayBeNone() {
        ModedMill m = numbers();
        for (int p = 0; p < 4; p++) m.addPredicate(p > 0 ? 0 : -1, p > 1 ? 0 : -1, p > 2 ? 0 : -1);
        for (int p = 0; p < 4; p++) {
            int of = p;
            due(IA, () -> m.addMode(of, 1 << of, 'n'));
            due(0, () -> m.addMode(of, (1 << of) - 1, 'n'));
        }
    }

    @Says(promise = 9, value = "if there is no such predicate")
    static void aModeNeedsItsPredicate() {
        ModedMill m = new ModedMill();
        due(IO, () -> m.addMode(0, 0, 'n'));
        m.addPredicate(-1, -1, -1);
        for (int p : new int[] {-1, 1, 5, LEAST, MOST}) due(IO, () -> m.addMode(p, 0, 'n'));
        due(0, () -> m.addMode(0, 0, 'n'));
    }

    @Says(promise = 9, value = "if the set has an argument that is not there")
    static void aModeNeedsItsInputs() {
        ModedMill m = numbers();
        int[] refused = {1, 2, 4, 8, 16, 1 << 30, -1, -2, -8, LEAST, MOST};
        for (int p = 0; p < 4; p++) {
            m.addPredicate(p > 0 ? 0 : -1, p > 1 ? 0 : -1, p > 2 ? 0 : -1);
            int of = p;
            for (int set : refused) {
                if (set < 0 || set >= 1 << p) due(IA, () -> m.addMode(of, set, 'n'));
            }
            due(IA, () -> m.addMode(of, 1 << of | 1, 'n'));
            due(0, () -> m.addMode(of, 0, 'n'));
            due(1, () -> m.addMode(of, (1 << of) - 1, 'n'));
        }
    }

    @Says(promise = 9, value = "or there is no such promise")
    static void aModeNeedsItsPromise() {
        ModedMill m = new ModedMill();
        m.addPredicate(-1, -1, -1);
        m.addPredicate(-1, -1, -1);
        for (char promise : new char[] {'x', 'D', 'c', 'e', 'o', 'p', '-', ' ', 0, 228, 0xffff, 'd' + 256}) {
            due(IA, () -> m.addMode(0, 0, promise));
        }
        due(0, () -> m.addMode(0, 0, 'd'));
        due(1, () -> m.addMode(0, 0, 's'));
        due(0, () -> m.addMode(1, 0, 'm'));
        due(1, () -> m.addMode(1, 0, 'n'));
    }

    @Says(promise = 9, value = "if the predicate has 2 modes")
    static void aThirdModeIsRefused() {
        ModedMill m = new ModedMill();
        m.addPredicate(-1, -1, -1);
        m.addPredicate(-1, -1, -1);
        due(0, () -> m.addMode(0, 0, 'n'));
        due(1, () -> m.addMode(0, 0, 'n'));
        due(IS, () -> m.addMode(0, 0, 'n'));
        due(0, () -> m.addMode(1, 0, 'n'));
    }

    @Says(promise = 9, value = "or all is compiled")
    static void noModeIsAddedWhenAllIsCompiled() {
        ModedMill m = new ModedMill();
        m.addPredicate(-1, -1, -1);
        m.compile();
        due(IS, () -> m.addMode(0, 0, 'n'));
        m.open();
        due(0, () -> m.addMode(0, 0, 'n'));
    }

    @Says(promise = 10, value = "if there is no such predicate")
    static void aClauseNeedsItsPredicate() {
        ModedMill m = new ModedMill();
        due(IO, () -> m.addClause(0));
        m.addPredicate(-1, -1, -1);
        for (int p : new int[] {-1, 1, 5, LEAST, MOST}) due(IO, () -> m.addClause(p));
        due(0, () -> m.addClause(0));
    }

    @Says(promise = 10, value = "if there are 12 clauses")
    static void aThirteenthClauseIsRefused() {
        ModedMill m = new ModedMill();
        m.addPredicate(-1, -1, -1);
        m.addPredicate(-1, -1, -1);
        for (int c = 0; c < 11; c++) m.addClause(0);
        due(11, () -> m.addClause(1));
        due(IS, () -> m.addClause(1));
        due(IS, () -> m.addClause(0));
    }

    @Says(promise = 10, value = "or all is compiled")
    static void noClauseIsAddedWhenAllIsCompiled() {
        ModedMill m = new ModedMill();
        m.addPredicate(-1, -1, -1);
        m.compile();
        due(IS, () -> m.addClause(0));
        m.open();
        due(0, () -> m.addClause(0));
    }

    @Says(promise = 10, value = "Adds a clause without goals")
    static void aClauseBeginsWithoutGoals() {
        ModedMill m = new ModedMill();
        predicate(m, -1, -1, -1, "0d");
        m.addClause(0);
        due(0, m::compile);
        due("", () -> order(m, 0, 0));
        due("1 e 0 0", () -> asked(m, 0, 0, 0, 0, 0));
    }

    @Says(promise = 11, value = "if there is no such clause, no such constructor, or no such variable, for any")
    static void aBuildNeedsClauseConstructorAndVariables() {
        ModedMill m = pairs();
        m.addPredicate(0, -1, -1);
        due(IO, () -> m.addBuild(0, 0, 0, 0, 0));
        m.addClause(0);
        for (int n : new int[] {-1, 12, LEAST, MOST}) {
            due(IO, () -> m.addBuild(n, 0, 0, 0, 0));
            due(IO, () -> m.addBuild(0, 0, n, 0, 0));
            due(IO, () -> m.addBuild(0, n, 0, 0, 0));
            due(IO, () -> m.addBuild(0, 0, 1, n, 0));
            due(IO, () -> m.addBuild(0, 0, 2, 3, n));
            // The variables of parts that there are not must be there, too.
            due(IO, () -> m.addBuild(0, 0, 0, n, 0));
            due(IO, () -> m.addBuild(0, 0, 1, 3, n));
        }
        due(IO, () -> m.addBuild(1, 0, 0, 0, 0));
        due(IO, () -> m.addBuild(0, 0, 3, 0, 0));
        due(IO, () -> m.addBuild(0, 8, 0, 0, 0));
        due(IO, () -> m.addBuild(0, 0, 2, 8, 0));
        due(IO, () -> m.addBuild(0, 0, 2, 0, 8));
        due(0, () -> m.addBuild(0, 7, 2, 7, 7));
        due(1, () -> m.addBuild(0, 0, 2, 0, 0));
    }

    @Says(promise = 11, value = "if a variable is of another type than it must be")
    static void aBuildNeedsVariablesOfItsTypes() {
        ModedMill m = lists();
        m.addPredicate(0, 1, -1);
        m.addClause(0);
        due(IA, () -> m.addBuild(0, 1, 0, 0, 0));
        due(IA, () -> m.addBuild(0, 0, 2, 0, 0));
        due(IA, () -> m.addBuild(0, 0, 3, 0, 1));
        due(IA, () -> m.addBuild(0, 1, 3, 1, 1));
        due(IA, () -> m.addBuild(0, 1, 3, 0, 0));
        due(IA, () -> m.addBuild(0, 0, 1, 1, 0));
        // One that has no type yet cannot have two.
        due(IA, () -> m.addBuild(0, 3, 3, 3, 1));
        due(IA, () -> m.addBuild(0, 1, 3, 4, 4));
        due(0, () -> m.addBuild(0, 1, 3, 0, 1));
    }

    @Says(promise = 11, value = "or a variable for a part that there is not is not 0")
    static void variablesOfPartsThatAreNotThereAreZero() {
        ModedMill m = numbers();
        m.addPredicate(0, 0, -1);
        m.addClause(0);
        due(IA, () -> m.addBuild(0, 0, 0, 1, 0));
        due(IA, () -> m.addBuild(0, 0, 0, 0, 1));
        due(IA, () -> m.addBuild(0, 0, 0, 7, 7));
        due(IA, () -> m.addBuild(0, 0, 1, 1, 1));
        due(0, () -> m.addBuild(0, 0, 0, 0, 0));
        due(1, () -> m.addBuild(0, 0, 1, 1, 0));
    }

    @Says(promise = 11, value = "if the clause has 5 goals")
    static void aSixthBuildIsRefused() {
        ModedMill m = fourGoals();
        due(4, () -> m.addBuild(0, 0, 0, 0, 0));
        due(IS, () -> m.addBuild(0, 0, 0, 0, 0));
        due(0, () -> m.addBuild(1, 0, 0, 0, 0));
    }

    /** Clause 0 has four goals, clause 1 none; predicate 0 has an argument. */
    static ModedMill fourGoals() {
        ModedMill m = numbers();
        predicate(m, 0, -1, -1, "1n");
        clause(m, 0, "same 0 0", "build 0 0", "call 0 0", "deny 0 0");
        clause(m, 0);
        return m;
    }

    @Says(promise = 11, value = "or all is compiled")
    static void noBuildIsAddedWhenAllIsCompiled() {
        ModedMill m = fourGoals();
        m.compile();
        due(IS, () -> m.addBuild(0, 0, 0, 0, 0));
        due(IS, () -> m.addBuild(1, 0, 0, 0, 0));
        m.open();
        due(0, () -> m.addBuild(1, 0, 0, 0, 0));
    }

    @Says(promise = 11, value = "the variable of the first part, 0 if there is none")
    static void theVariableOfNoPartIsZero() {
        // There 0 stands for no variable: it needs no value, gets no type, and nothing is made equal to it.
        ModedMill m = lists();
        predicate(m, 1, 0, -1, "0n");
        clause(m, 0, "build 1 0", "build 0 2");
        due(0, m::compile);
        due("0 1", () -> order(m, 0, 0));
        due(1, () -> m.ask(0, 0, 0, 0, 0));
        due(2, m::terms);
        due(1, m::answersByBreadth);
        m.open();
        predicate(m, -1, -1, -1, "0n");
        clause(m, 1, "build 1 0");
        due(IA, () -> goal(m, 1, "same 0 0"));
    }

    @Says(promise = 11, value = "the variable of the second part, 0 if there is none")
    static void theVariableOfNoSecondPartIsZero() {
        ModedMill m = lists();
        predicate(m, 1, 0, -1, "2n");
        clause(m, 0, "build 3 1 1 0", "build 0 2");
        due(0, m::compile);
        due("0 1", () -> order(m, 0, 0));
        number(m, 0);
        due(1, () -> m.ask(0, 0, 0, 0, 0));
        due(3, m::terms);
        due(1, m::answersByBreadth);
        m.open();
        predicate(m, -1, -1, -1, "0n");
        clause(m, 1, "build 3 1 1 0");
        due(IA, () -> goal(m, 1, "same 0 0"));
    }

    @Says(promise = 12, value = "if there is no such clause or no such variable, for either")
    static void aSameNeedsClauseAndVariables() {
        ModedMill m = numbers();
        m.addPredicate(0, -1, -1);
        due(IO, () -> m.addSame(0, 0, 0));
        m.addClause(0);
        for (int n : new int[] {-1, 8, 12, LEAST, MOST}) {
            due(IO, () -> m.addSame(n, 0, 0));
            due(IO, () -> m.addSame(0, n, 0));
            due(IO, () -> m.addSame(0, 0, n));
        }
        due(IO, () -> m.addSame(1, 0, 0));
        due(0, () -> m.addSame(0, 0, 7));
    }

    @Says(promise = 12, value = "if their types are unlike")
    static void aSameNeedsLikeTypes() {
        ModedMill m = lists();
        m.addPredicate(0, 1, 1);
        m.addClause(0);
        due(IA, () -> m.addSame(0, 0, 1));
        due(IA, () -> m.addSame(0, 2, 0));
        due(0, () -> m.addSame(0, 1, 2));
    }

    @Says(promise = 12, value = "or both have no type yet")
    static void aSameNeedsAType() {
        ModedMill m = numbers();
        m.addPredicate(0, -1, -1);
        m.addClause(0);
        due(IA, () -> m.addSame(0, 3, 4));
        due(IA, () -> m.addSame(0, 3, 3));
        due(0, () -> m.addSame(0, 3, 0));
        due(1, () -> m.addSame(0, 4, 3));
        due(2, () -> m.addSame(0, 3, 3));
    }

    @Says(promise = 12, value = "another one, or the same one")
    static void aSameOfOneVariable() {
        ModedMill m = numbers();
        predicate(m, 0, -1, -1, "1n");
        m.addClause(0);
        due(0, () -> m.addSame(0, 0, 0));
        m.compile();
        number(m, 0);
        due("1 e 1 0", () -> asked(m, 0, 0, 0, 0, 0));
        due(1, m::answersByBreadth);
    }

    @Says(promise = 12, value = "if the clause has 5 goals")
    static void aSixthSameIsRefused() {
        ModedMill m = fourGoals();
        due(4, () -> m.addSame(0, 0, 0));
        due(IS, () -> m.addSame(0, 0, 0));
        due(0, () -> m.addSame(1, 0, 0));
    }

    @Says(promise = 12, value = "or all is compiled")
    static void noSameIsAddedWhenAllIsCompiled() {
        ModedMill m = fourGoals();
        m.compile();
        due(IS, () -> m.addSame(0, 0, 0));
        due(IS, () -> m.addSame(1, 0, 0));
        m.open();
        due(0, () -> m.addSame(1, 0, 0));
    }

    @Says(promise = 13, value = "if there is no such clause, no such predicate, or no such variable, for any")
    static void aCallNeedsClausePredicateAndVariables() {
        ModedMill m = numbers();
        m.addPredicate(0, 0, 0);
        m.addPredicate(-1, -1, -1);
        due(IO, () -> m.addCall(0, 0, 0, 0, 0, false));
        m.addClause(0);
        for (boolean denied : new boolean[] {false, true}) {
            for (int n : new int[] {-1, 8, 12, LEAST, MOST}) {
                due(IO, () -> m.addCall(n, 0, 0, 0, 0, denied));
                due(IO, () -> m.addCall(0, n, 0, 0, 0, denied));
                due(IO, () -> m.addCall(0, 0, n, 0, 0, denied));
                due(IO, () -> m.addCall(0, 0, 0, n, 0, denied));
                due(IO, () -> m.addCall(0, 0, 0, 0, n, denied));
                due(IO, () -> m.addCall(0, 1, n, 0, 0, denied));
                due(IO, () -> m.addCall(0, 1, 0, 0, n, denied));
            }
            due(IO, () -> m.addCall(1, 0, 0, 0, 0, denied));
            due(IO, () -> m.addCall(0, 2, 0, 0, 0, denied));
        }
        due(0, () -> m.addCall(0, 0, 7, 0, 7, false));
        due(1, () -> m.addCall(0, 1, 0, 0, 0, true));
    }

    @Says(promise = 13, value = "if a variable is of another type than it must be")
    static void aCallNeedsVariablesOfItsTypes() {
        ModedMill m = lists();
        m.addPredicate(0, 1, 0);
        m.addClause(0);
        for (boolean denied : new boolean[] {false, true}) {
            due(IA, () -> m.addCall(0, 0, 1, 1, 0, denied));
            due(IA, () -> m.addCall(0, 0, 0, 0, 0, denied));
            due(IA, () -> m.addCall(0, 0, 0, 1, 1, denied));
            due(IA, () -> m.addCall(0, 0, 3, 3, 0, denied));
            due(IA, () -> m.addCall(0, 0, 0, 3, 3, denied));
        }
        due(0, () -> m.addCall(0, 0, 3, 1, 3, false));
        due(1, () -> m.addCall(0, 0, 3, 4, 0, true));
    }

    @Says(promise = 13, value = "or a variable for an argument that there is not is not 0")
    static void variablesOfArgumentsThatAreNotThereAreZero() {
        ModedMill m = numbers();
        m.addPredicate(-1, -1, -1);
        m.addPredicate(0, -1, -1);
        m.addPredicate(0, 0, -1);
        m.addClause(2);
        for (boolean denied : new boolean[] {false, true}) {
            due(IA, () -> m.addCall(0, 0, 1, 0, 0, denied));
            due(IA, () -> m.addCall(0, 0, 0, 1, 0, denied));
            due(IA, () -> m.addCall(0, 0, 0, 0, 1, denied));
            due(IA, () -> m.addCall(0, 1, 1, 1, 0, denied));
            due(IA, () -> m.addCall(0, 1, 1, 0, 1, denied));
            due(IA, () -> m.addCall(0, 2, 1, 1, 1, denied));
        }
        due(0, () -> m.addCall(0, 0, 0, 0, 0, false));
        due(1, () -> m.addCall(0, 1, 1, 0, 0, true));
        due(2, () -> m.addCall(0, 2, 1, 1, 0, false));
    }

    @Says(promise = 13, value = "if the clause has 5 goals")
    static void aSixthCallIsRefused() {
        ModedMill m = fourGoals();
        ModedMill n = fourGoals();
        due(4, () -> m.addCall(0, 0, 0, 0, 0, false));
        due(IS, () -> m.addCall(0, 0, 0, 0, 0, false));
        due(IS, () -> m.addCall(0, 0, 0, 0, 0, true));
        due(4, () -> n.addCall(0, 0, 0, 0, 0, true));
        due(IS, () -> n.addCall(0, 0, 0, 0, 0, true));
        due(0, () -> n.addCall(1, 0, 0, 0, 0, true));
    }

    @Says(promise = 13, value = "or all is compiled")
    static void noCallIsAddedWhenAllIsCompiled() {
        ModedMill m = fourGoals();
        m.compile();
        due(IS, () -> m.addCall(0, 0, 0, 0, 0, false));
        due(IS, () -> m.addCall(1, 0, 0, 0, 0, true));
        m.open();
        due(0, () -> m.addCall(1, 0, 0, 0, 0, true));
    }

    @Says(promise = 13, value = "the variable of its first argument, 0 if there is none")
    static void theVariableOfNoArgumentIsZero() {
        // There 0 stands for no variable: it gets no type and no value.
        ModedMill m = numbers();
        predicate(m, -1, -1, -1, "0n");
        clause(m, 0, "deny 0", "call 0");
        due(IA, () -> goal(m, 0, "same 0 0"));
        due(2, () -> goal(m, 0, "build 0 1 1"));
        due(1, m::compile);
        due("0:0 1:0", () -> order(m, 0, 0));
    }

    @Says(promise = 13, value = "whether it is denied")
    static void callsAreDeniedOrNot() {
        ModedMill m = new ModedMill();
        for (int p = 0; p < 3; p++) predicate(m, -1, -1, -1, "0n");
        m.addClause(0);
        m.addCall(0, 2, 0, 0, 0, false);
        m.addClause(1);
        m.addCall(1, 2, 0, 0, 0, true);
        m.compile();
        due(0, () -> m.ask(0, 0, 0, 0, 0));
        due(1, () -> m.ask(1, 0, 0, 0, 0));
    }

    @Says(promise = 14, value = "Returns the number of modes with a fault")
    static void compileCountsFaults() {
        due(0, () -> new ModedMill().compile());
        ModedMill m = numbers();
        predicate(m, 0, -1, -1, "0n", "1d");
        predicate(m, -1, -1, -1, "0n", "0m");
        predicate(m, -1, -1, -1, "0d", "0s");
        clause(m, 0, "same 0 0");
        clause(m, 1, "build 3 1 4");
        clause(m, 2, "call 1");
        // 'o' for 0 in its mode 0, and for 1 in both; 'p' for 0 in its mode 1; 2 is not good, but has none.
        due(4, m::compile);
        m.open();
        due(4, m::compile);
        m.open();
        goal(m, 1, "build 4 0");
        due(2, m::compile);
    }

    @Says(promise = 14, value = "if all is compiled")
    static void nothingIsCompiledTwice() {
        ModedMill m = numbers();
        due(0, m::compile);
        due(IS, m::compile);
        m.open();
        due(0, m::compile);
        due(IS, m::compile);
    }

    @Says(promise = 15, value = "Lets all be changed again")
    static void allCanBeChangedWhenItIsOpen() {
        ModedMill m = numbers();
        predicate(m, 0, -1, -1, "1n");
        clause(m, 0, "build 0 0");
        m.compile();
        number(m, 1);
        due(0, () -> m.ask(0, 0, 1, 0, 0));
        due("s", () -> found(m, 0));
        m.open();
        due(1, m::addType);
        due(2, () -> m.addConstructor(1, -1, -1));
        due(1, () -> m.addMode(0, 1, 'n'));
        due(1, () -> m.addClause(0));
        due(0, () -> m.addBuild(1, 0, 1, 3, 0));
        due(1, () -> m.addSame(1, 4, 3));
        due(2, () -> m.addCall(1, 0, 3, 0, 0, false));
        due(1, () -> m.addPredicate(1, -1, -1));
        due(0, m::compile);
        due("d", () -> found(m, 0));
        due(1, () -> m.ask(0, 1, 1, 0, 0));
        m.open();
        // What was found is found anew: a predicate that could answer twice gets a switch.
        due(0, () -> m.addMode(1, 1, 'n'));
        due(2, () -> m.addClause(1));
        due(3, () -> m.addClause(1));
        m.compile();
        due("m", () -> found(m, 1));
        m.open();
        due(0, () -> m.addBuild(2, 0, 2, 0, 0));
        due(3, () -> m.addConstructor(1, 1, -1));
        due(0, () -> m.addBuild(3, 0, 3, 3, 0));
        m.compile();
        due("d", () -> found(m, 1));
        m.open();
        // A new constructor of the type takes away that it cannot fail.
        due(4, () -> m.addConstructor(0, -1, -1));
        due(0, m::compile);
        due("s", () -> found(m, 0));
        due("d", () -> found(m, 1));
    }

    @Says(promise = 15, value = "what was asked is forgotten")
    static void openForgetsWhatWasAsked() {
        ModedMill m = bare(1, "0", "0");
        due(2, () -> m.ask(0, 0, 0, 0, 0));
        m.open();
        for (Call call : looks(m)) due(NS, call);
        due(AR, m::meanSteps);
        m.compile();
        for (Call call : looks(m)) due(NS, call);
        due(AR, m::meanSteps);
        due(2, () -> m.ask(0, 0, 0, 0, 0));
        due('e', m::ending);
    }

    @Says(promise = 15, value = "Returns the number of questions that were asked since it was compiled")
    static void openTellsTheNumberOfQuestions() {
        ModedMill m = bare(1, "0");
        due(0, m::open);
        m.compile();
        for (int i = 0; i < 3; i++) m.ask(0, 0, 0, 0, 0);
        // A question that is refused was not asked.
        due(IO, () -> m.ask(1, 0, 0, 0, 0));
        due(IA, () -> m.ask(0, 0, 1, 0, 0));
        due(3, m::open);
        m.compile();
        due(0, m::open);
        m.compile();
        m.ask(0, 0, 0, 0, 0);
        due(1, m::open);
    }

    @Says(promise = 15, value = "if it is not compiled")
    static void onlyWhatIsCompiledIsOpened() {
        ModedMill m = bare(1, "0");
        due(0, m::open);
        due(IS, m::open);
        due(IS, () -> new ModedMill().open());
        m.compile();
        due(0, m::open);
    }

    interface Look {
        Object at(int predicate, int mode);
    }

    /** A look at a mode: which there are, and that all must be compiled. */
    static void looksAtModes(ModedMill m, int predicates, int modes, Look look) {
        for (int n : new int[] {-1, 5, LEAST, MOST}) {
            due(IO, () -> look.at(n, 0));
            due(IO, () -> look.at(0, n));
        }
        due(IO, () -> look.at(predicates, 0));
        due(IO, () -> look.at(0, modes));
        due(IS, () -> look.at(predicates - 1, 0));
        due(IS, () -> look.at(0, modes - 1));
        m.compile();
        due(IO, () -> look.at(predicates, 0));
        due(IO, () -> look.at(-1, 0));
        due(IO, () -> look.at(0, modes));
        due(IO, () -> look.at(0, -1));
        due(false, () -> told(() -> look.at(predicates - 1, 0)).equals(IS));
        due(false, () -> told(() -> look.at(0, modes - 1)).equals(IO));
        m.open();
        due(IS, () -> look.at(0, 0));
    }

    /** Two predicates, of which 0 has two modes and 1 has one. */
    static ModedMill threeModes() {
        ModedMill m = numbers();
        predicate(m, 0, -1, -1, "1n", "1n");
        predicate(m, 0, -1, -1, "1n");
        clause(m, 0, "build 0 0");
        clause(m, 1, "build 0 0");
        return m;
    }

    @Says(promise = 16, value = "if there is no such predicate or no such mode")
    static void faultNeedsAMode() {
        ModedMill m = threeModes();
        looksAtModes(m, 2, 2, m::fault);
        m.compile();
        due(IO, () -> m.fault(1, 1));
        due(IO, () -> m.fault(2, 0));
        due('-', () -> m.fault(1, 0));
    }

    @Says(promise = 16, value = "if it is not compiled")
    static void faultNeedsAllCompiled() {
        ModedMill m = threeModes();
        due(IS, () -> m.fault(0, 0));
        m.compile();
        due('-', () -> m.fault(0, 0));
        m.open();
        due(IS, () -> m.fault(0, 0));
    }

    @Says(promise = 16, value = "Returns 'o', 'p', or '-' if it has none")
    static void faultsAreTold() {
        ModedMill m = numbers();
        predicate(m, 0, -1, -1, "0d", "1d");
        predicate(m, 0, -1, -1, "1s", "1m");
        clause(m, 0, "same 0 0");
        clause(m, 1, "same 0 0");
        m.compile();
        due('o', () -> m.fault(0, 0));
        due('p', () -> m.fault(0, 1));
        due('-', () -> m.fault(1, 0));
        due('p', () -> m.fault(1, 1));
    }

    @Says(promise = 17, value = "if there is no such predicate or no such mode")
    static void isGoodNeedsAMode() {
        ModedMill m = threeModes();
        looksAtModes(m, 2, 2, m::isGood);
        m.compile();
        due(IO, () -> m.isGood(1, 1));
        due(IO, () -> m.isGood(2, 0));
        due(true, () -> m.isGood(1, 0));
    }

    @Says(promise = 17, value = "if it is not compiled")
    static void isGoodNeedsAllCompiled() {
        ModedMill m = threeModes();
        due(IS, () -> m.isGood(0, 0));
        m.compile();
        due(true, () -> m.isGood(0, 0));
        m.open();
        due(IS, () -> m.isGood(0, 0));
    }

    @Says(promise = 17, value = "Returns whether it is")
    static void aFaultOfPromiseLeavesAModeGood() {
        ModedMill m = numbers();
        predicate(m, 0, -1, -1, "0d", "1d");
        clause(m, 0, "same 0 0");
        due(2, m::compile);
        due(false, () -> m.isGood(0, 0));
        due('p', () -> m.fault(0, 1));
        due(true, () -> m.isGood(0, 1));
        number(m, 0);
        due(1, () -> m.ask(0, 1, 0, 0, 0));
    }

    @Says(promise = 18, value = "if there is no such predicate or no such mode")
    static void foundNeedsAMode() {
        ModedMill m = threeModes();
        looksAtModes(m, 2, 2, m::found);
        m.compile();
        due(IO, () -> m.found(1, 1));
        due(IO, () -> m.found(2, 0));
        due('s', () -> m.found(1, 0));
    }

    @Says(promise = 18, value = "if it is not compiled")
    static void foundNeedsAllCompiled() {
        ModedMill m = threeModes();
        due(IS, () -> m.found(0, 0));
        m.compile();
        due('s', () -> m.found(0, 0));
        m.open();
        due(IS, () -> m.found(0, 0));
    }

    @Says(promise = 18, value = "if the mode is not good")
    static void foundNeedsAGoodMode() {
        ModedMill m = numbers();
        predicate(m, 0, -1, -1, "0n", "1n");
        predicate(m, 0, -1, -1, "1n");
        clause(m, 0, "same 0 0");
        clause(m, 1, "same 0 0", "call 0 3");
        m.compile();
        due(NS, () -> m.found(0, 0));
        due('s', () -> m.found(0, 1));
        // Without a fault, but not good.
        due('-', () -> m.fault(1, 0));
        due(NS, () -> m.found(1, 0));
    }

    @Says(promise = 19, value = "if there is no such predicate or no such mode")
    static void switchOfNeedsAMode() {
        ModedMill m = threeModes();
        looksAtModes(m, 2, 2, m::switchOf);
        m.compile();
        due(IO, () -> m.switchOf(1, 1));
        due(IO, () -> m.switchOf(2, 0));
        due(0, () -> m.switchOf(1, 0));
    }

    @Says(promise = 19, value = "if it is not compiled")
    static void switchOfNeedsAllCompiled() {
        ModedMill m = threeModes();
        due(IS, () -> m.switchOf(0, 0));
        m.compile();
        due(0, () -> m.switchOf(0, 0));
        m.open();
        due(IS, () -> m.switchOf(0, 0));
    }

    @Says(promise = 19, value = "if the mode has the fault 'o', or no switch")
    static void switchOfNeedsASwitch() {
        ModedMill m = numbers();
        predicate(m, 0, 0, -1, "1n", "3n");
        predicate(m, 0, -1, -1, "1n");
        predicate(m, 0, -1, -1, "1n");
        clause(m, 0, "build 0 0");
        clause(m, 1, "same 0 0", "build 0 0");
        clause(m, 2, "build 0 0", "call 0 3 4");
        clause(m, 2, "build 0 1 3", "call 0 3 4");
        m.compile();
        due('o', () -> m.fault(0, 0));
        due(NS, () -> m.switchOf(0, 0));
        due(0, () -> m.switchOf(0, 1));
        due(NS, () -> m.switchOf(1, 0));
        due('o', () -> m.fault(2, 0));
        due(NS, () -> m.switchOf(2, 0));
        // A mode that is not good, but has no fault 'o', has its switch.
        ModedMill n = numbers();
        predicate(n, 0, 0, -1, "1n");
        predicate(n, 0, -1, -1, "1n");
        clause(n, 0, "build 0 0");
        clause(n, 1, "build 0 0", "call 0 0 3");
        n.compile();
        due(false, () -> n.isGood(1, 0));
        due('-', () -> n.fault(1, 0));
        due(0, () -> n.switchOf(1, 0));
    }

    @Says(promise = 19, value = "Returns the place of the input")
    static void switchesTellTheirPlace() {
        for (int place = 0; place < 3; place++) {
            ModedMill m = numbers();
            predicate(m, 0, 0, 0, "7n");
            clause(m, 0, "build " + place + " 0");
            clause(m, 0, "build " + place + " 1 3", "build " + (place + 1) % 3 + " 0");
            m.compile();
            due(place, () -> m.switchOf(0, 0));
        }
    }

    /** Clause 0 of predicate 0, which has two modes, has a build, a call and a denied call; clause 1 of 1 has none. */
    static ModedMill twoOrders() {
        ModedMill m = numbers();
        predicate(m, 0, 0, -1, "1n", "3n");
        predicate(m, 0, -1, -1, "1n");
        clause(m, 0, "build 1 1 3", "call 0 0 3", "deny 1 3");
        clause(m, 1);
        return m;
    }

    @Says(promise = 20, value = "if there is no such clause, or no such mode of its predicate")
    static void goalAtNeedsClauseAndMode() {
        ModedMill m = twoOrders();
        for (int n : new int[] {-1, 2, 12, LEAST, MOST}) {
            due(IO, () -> m.goalAt(n, 0, 0));
            due(IO, () -> m.goalAt(0, n, 0));
        }
        m.compile();
        for (int n : new int[] {-1, 2, 12, LEAST, MOST}) {
            due(IO, () -> m.goalAt(n, 0, 0));
            due(IO, () -> m.goalAt(0, n, 0));
        }
        due(IO, () -> m.goalAt(1, 1, 0));
        due(0, () -> m.goalAt(0, 1, 0));
    }

    @Says(promise = 20, value = "if it is not compiled")
    static void goalAtNeedsAllCompiled() {
        ModedMill m = twoOrders();
        due(IS, () -> m.goalAt(0, 0, 0));
        m.compile();
        due(1, () -> m.goalAt(0, 0, 0));
        m.open();
        due(IS, () -> m.goalAt(0, 0, 0));
    }

    @Says(promise = 20, value = "if the order has no such place")
    static void goalAtNeedsAPlace() {
        ModedMill m = twoOrders();
        m.compile();
        int[] first = {1, 0, 2};
        int[] second = {0, 1, 2};
        for (int i = 0; i < 3; i++) {
            int place = i;
            due(first[i], () -> m.goalAt(0, 0, place));
            due(second[i], () -> m.goalAt(0, 1, place));
        }
        for (int place : new int[] {-1, 3, 4, 5, LEAST, MOST}) {
            due(NS, () -> m.goalAt(0, 0, place));
            due(NS, () -> m.goalAt(0, 1, place));
        }
        due(NS, () -> m.goalAt(1, 0, 0));
        // An order in which a goal is left has the places of the others.
        ModedMill n = numbers();
        predicate(n, 0, -1, -1, "1n");
        clause(n, 0, "build 3 1 4", "same 0 0");
        due(1, n::compile);
        due(1, () -> n.goalAt(0, 0, 0));
        due(NS, () -> n.goalAt(0, 0, 1));
    }

    @Says(promise = 20, value = "the place in the order, from 0")
    static void goalsAreAtTheirPlaces() {
        ModedMill m = numbers();
        predicate(m, 0, -1, -1, "1n");
        clause(m, 0, "build 3 1 4", "build 4 1 5", "build 5 1 6", "build 6 1 7", "same 7 0");
        m.compile();
        due("4 3 2 1 0", () -> order(m, 0, 0));
    }

    @Says(promise = 21, value = "if there is no such clause, or no such mode of its predicate")
    static void chosenAtNeedsClauseAndMode() {
        ModedMill m = twoOrders();
        for (int n : new int[] {-1, 2, 12, LEAST, MOST}) {
            due(IO, () -> m.chosenAt(n, 0, 0));
            due(IO, () -> m.chosenAt(0, n, 0));
        }
        m.compile();
        for (int n : new int[] {-1, 2, 12, LEAST, MOST}) {
            due(IO, () -> m.chosenAt(n, 0, 0));
            due(IO, () -> m.chosenAt(0, n, 0));
        }
        due(IO, () -> m.chosenAt(1, 1, 0));
        due(0, () -> m.chosenAt(0, 1, 1));
    }

    @Says(promise = 21, value = "if it is not compiled")
    static void chosenAtNeedsAllCompiled() {
        ModedMill m = twoOrders();
        due(IS, () -> m.chosenAt(0, 0, 0));
        m.compile();
        due(0, () -> m.chosenAt(0, 0, 0));
        m.open();
        due(IS, () -> m.chosenAt(0, 0, 0));
    }

    @Says(promise = 21, value = "if the order has no such place, or its goal is no call")
    static void chosenAtNeedsACall() {
        ModedMill m = twoOrders();
        m.compile();
        due(0, () -> m.chosenAt(0, 0, 0));
        due(NS, () -> m.chosenAt(0, 0, 1));
        due(0, () -> m.chosenAt(0, 0, 2));
        for (int place : new int[] {-1, 3, 4, 5, LEAST, MOST}) due(NS, () -> m.chosenAt(0, 0, place));
        due(NS, () -> m.chosenAt(1, 0, 0));
        ModedMill n = fourGoals();
        n.compile();
        due(NS, () -> n.chosenAt(0, 0, 0));
        due(NS, () -> n.chosenAt(0, 0, 1));
        due(0, () -> n.chosenAt(0, 0, 2));
        due(0, () -> n.chosenAt(0, 0, 3));
        due(NS, () -> n.chosenAt(0, 0, 4));
    }

    @Says(promise = 21, value = "the place in the order, from 0")
    static void chosenModesAreAtTheirPlaces() {
        ModedMill m = numbers();
        predicate(m, 0, -1, -1, "1n");
        predicate(m, 0, 0, -1, "3n", "1n");
        clause(m, 0, "call 1 3 4", "call 1 5 3", "same 5 0", "call 1 5 0", "deny 1 3 0");
        m.compile();
        due("2 1:1 0:1 3:0 4:0", () -> order(m, 0, 0));
    }

    @Says(promise = 21, value = "Returns the number of the mode")
    static void theChosenModeIsTold() {
        ModedMill m = numbers();
        predicate(m, 0, -1, -1, "1n");
        predicate(m, 0, 0, -1, "2n", "1n");
        clause(m, 0, "call 1 0 3", "call 1 4 3", "deny 1 3 4");
        m.compile();
        due("0:1 1:0 2:0", () -> order(m, 0, 0));
    }

    @Says(promise = 22, value = "if there is no such predicate or no such mode")
    static void aQuestionNeedsAMode() {
        ModedMill m = threeModes();
        number(m, 0);
        looksAtModes(m, 2, 2, (p, mode) -> m.ask(p, mode, 0, 0, 0));
        m.compile();
        due(IO, () -> m.ask(1, 1, 0, 0, 0));
        due(IO, () -> m.ask(2, 0, 0, 0, 0));
        due(1, () -> m.ask(1, 0, 0, 0, 0));
    }

    @Says(promise = 22, value = "or no such term for an input")
    static void aQuestionNeedsItsInputs() {
        ModedMill m = numbers();
        predicate(m, 0, 0, 0, "7n");
        clause(m, 0);
        m.compile();
        due(IO, () -> m.ask(0, 0, 0, 0, 0));
        number(m, 1);
        for (int term : new int[] {-1, 2, 200, LEAST, MOST}) {
            due(IO, () -> m.ask(0, 0, term, 0, 0));
            due(IO, () -> m.ask(0, 0, 0, term, 0));
            due(IO, () -> m.ask(0, 0, 0, 0, term));
        }
        due(1, () -> m.ask(0, 0, 1, 0, 1));
    }

    @Says(promise = 22, value = "if a term for an input is of another type than it must be")
    static void aQuestionNeedsInputsOfItsTypes() {
        ModedMill m = lists();
        predicate(m, 0, 1, 0, "7n");
        clause(m, 0);
        m.compile();
        int zero = m.term(0, 0, 0);
        int nil = m.term(2, 0, 0);
        due(IA, () -> m.ask(0, 0, nil, nil, zero));
        due(IA, () -> m.ask(0, 0, zero, zero, zero));
        due(IA, () -> m.ask(0, 0, zero, nil, nil));
        due(1, () -> m.ask(0, 0, zero, nil, zero));
    }

    @Says(promise = 22, value = "or something for what is no input is not 0")
    static void whatIsNoInputIsZero() {
        ModedMill m = numbers();
        predicate(m, 0, 0, -1, "1n", "2n");
        predicate(m, -1, -1, -1, "0n");
        clause(m, 0, "same 0 1");
        clause(m, 1);
        m.compile();
        number(m, 1);
        for (int term : new int[] {-1, 1, 2, LEAST, MOST}) {
            due(IA, () -> m.ask(0, 0, 0, term, 0));
            due(IA, () -> m.ask(0, 0, 0, 0, term));
            due(IA, () -> m.ask(0, 1, term, 0, 0));
            due(IA, () -> m.ask(1, 0, term, 0, 0));
            due(IA, () -> m.ask(1, 0, 0, term, 0));
            due(IA, () -> m.ask(1, 0, 0, 0, term));
        }
        due(1, () -> m.ask(0, 0, 1, 0, 0));
        due(1, () -> m.ask(0, 1, 0, 1, 0));
        due(1, () -> m.ask(1, 0, 0, 0, 0));
    }

    @Says(promise = 22, value = "if it is not compiled")
    static void aQuestionNeedsAllCompiled() {
        ModedMill m = threeModes();
        number(m, 0);
        due(IS, () -> m.ask(0, 0, 0, 0, 0));
        m.compile();
        due(1, () -> m.ask(0, 0, 0, 0, 0));
        m.open();
        due(IS, () -> m.ask(0, 0, 0, 0, 0));
    }

    @Says(promise = 22, value = "if the mode is not good")
    static void aQuestionNeedsAGoodMode() {
        ModedMill m = numbers();
        predicate(m, 0, -1, -1, "1n", "0n");
        predicate(m, -1, -1, -1, "0n");
        predicate(m, 0, -1, -1, "1d");
        clause(m, 0, "same 0 0");
        clause(m, 1, "call 0 3");
        clause(m, 2, "call 0 0");
        m.compile();
        number(m, 0);
        due(UN, () -> m.ask(0, 1, 0, 0, 0));
        due(1, () -> m.ask(0, 0, 0, 0, 0));
        due('-', () -> m.fault(1, 0));
        due(UN, () -> m.ask(1, 0, 0, 0, 0));
        // A promise that is broken is no hindrance.
        due('p', () -> m.fault(2, 0));
        due(1, () -> m.ask(2, 0, 0, 0, 0));
    }

    @Says(promise = 22, value = "or more than 200 terms would have numbers by this")
    static void aQuestionMakesNoMoreThanTwoHundredTerms() {
        ModedMill m = numbers();
        predicate(m, 0, 0, -1, "1n");
        predicate(m, 0, -1, -1, "1n");
        predicate(m, 0, -1, -1, "1n");
        clause(m, 0, "build 3 1 0", "build 1 1 3");
        // Made and then failed; made in a denied call.
        clause(m, 1, "build 3 1 0", "same 3 0");
        clause(m, 2, "deny 1 0");
        m.compile();
        number(m, 196);
        due(1, () -> m.ask(0, 0, 196, 0, 0));
        due(199, m::terms);
        // Two more are one too many, and the first of them is taken back.
        due(UN, () -> m.ask(0, 0, 198, 0, 0));
        due(199, m::terms);
        due(IO, () -> m.constructorOf(199));
        due(1, () -> m.ask(0, 0, 197, 0, 0));
        due(200, m::terms);
        due(UN, () -> m.ask(0, 0, 198, 0, 0));
        due(UN, () -> m.ask(1, 0, 199, 0, 0));
        due(UN, () -> m.ask(2, 0, 199, 0, 0));
        // What is made there already needs no number.
        due(1, () -> m.ask(0, 0, 197, 0, 0));
        due(0, () -> m.ask(1, 0, 198, 0, 0));
        due(1, () -> m.ask(2, 0, 198, 0, 0));
        due(200, m::terms);
        due(5, m::open);
    }

    @Says(promise = 22, value = "Asks a question")
    static void eachQuestionIsAskedAnew() {
        // Calls that were denied, deep or full of values in one question are others in the next one.
        ModedMill m = numbers();
        predicate(m, 0, -1, -1, "1n");
        predicate(m, 0, 0, -1, "1n");
        predicate(m, 0, -1, -1, "0n");
        predicate(m, 0, -1, -1, "1n");
        clause(m, 0, "deny 1 0 0", "call 1 0 3");
        clause(m, 0, "call 1 0 3", "deny 1 3 3", "call 2 4");
        clause(m, 1, "build 1 1 0");
        clause(m, 1, "build 3 1 0", "build 1 1 3");
        clause(m, 2, "build 0 0");
        clause(m, 2, "build 3 0", "call 1 3 0");
        clause(m, 3, "build 3 1 0", "call 3 3");
        m.compile();
        number(m, 40);
        String[] due = {"8 e 34 10", "2 e 3 1", "3 e 6 2", "0 l 60 0"};
        int[] inputs = {3, 3, 0, 0};
        for (int ahead = 0; ahead < 4; ahead++) {
            for (int behind = 0; behind < 4; behind++) {
                for (int p : new int[] {ahead, behind}) due(due[p], () -> asked(m, p, 0, inputs[p], 0, 0));
            }
        }
    }

    @Says(promise = 22, value = "Returns the number of answers")
    static void askTellsTheNumberOfAnswers() {
        ModedMill m = bare(4, "1", "2", "2", "3");
        due(0, () -> m.ask(0, 0, 0, 0, 0));
        due(1, () -> m.ask(1, 0, 0, 0, 0));
        due(2, () -> m.ask(2, 0, 0, 0, 0));
        due(1, () -> m.ask(3, 0, 0, 0, 0));
    }

    /** Asks with one input and with none: there 0 is not the term 0, also if there is no term at all. */
    static void zeroIsNoInput(int input) {
        ModedMill m = numbers();
        predicate(m, 0, 0, 0, "0n", (1 << input) + "n");
        clause(m, 0, "build 0 1 1", "build 1 1 2", "build 2 0");
        m.compile();
        due(1, () -> m.ask(0, 0, 0, 0, 0));
        due("2,1,0", () -> answers(m, 3));
        int[] given = new int[3];
        given[input] = 2 - input;
        due(1, () -> m.ask(0, 1, given[0], given[1], given[2]));
        due("2,1,0", () -> answers(m, 3));
        for (int place = 0; place < 3; place++) {
            if (place != input) {
                int[] more = given.clone();
                more[place] = 2 - place;
                due(more[place] == 0 ? 1 : IA, () -> m.ask(0, 1, more[0], more[1], more[2]));
            }
        }
    }

    @Says(promise = 22, value = "the term for the first argument, 0 if it is no input")
    static void theFirstArgumentMayBeNoInput() {
        zeroIsNoInput(1);
    }

    @Says(promise = 22, value = "the term for the second argument, 0 if it is no input")
    static void theSecondArgumentMayBeNoInput() {
        zeroIsNoInput(2);
    }

    @Says(promise = 22, value = "the term for the third argument, 0 if it is no input")
    static void theThirdArgumentMayBeNoInput() {
        zeroIsNoInput(0);
    }

    /** The last question: nothing is told of it as long as none was asked since all was compiled. */
    static void looksNeedAQuestion(Function<ModedMill, Object> look) {
        ModedMill m = numbers();
        predicate(m, 0, -1, -1, "1n", "0n");
        clause(m, 0, "same 0 0");
        due(NS, () -> look.apply(m));
        m.compile();
        due(NS, () -> look.apply(m));
        // What is refused was not asked.
        due(IO, () -> m.ask(0, 0, 0, 0, 0));
        m.term(0, 0, 0);
        due(IA, () -> m.ask(0, 0, 0, 1, 0));
        due(UN, () -> m.ask(0, 1, 0, 0, 0));
        due(NS, () -> look.apply(m));
        due(1, () -> m.ask(0, 0, 0, 0, 0));
        due(false, () -> told(() -> look.apply(m)).equals(NS));
        due(1, m::open);
        due(NS, () -> look.apply(m));
        m.compile();
        due(NS, () -> look.apply(m));
        due(1, () -> m.ask(0, 0, 0, 0, 0));
        due(false, () -> told(() -> look.apply(m)).equals(NS));
    }

    @Says(promise = 23, value = "if none was asked since all was compiled")
    static void endingNeedsAQuestion() {
        looksNeedAQuestion(ModedMill::ending);
    }

    @Says(promise = 23, value = "Returns 'e' or 'l'")
    static void endingsAreTold() {
        ModedMill m = bare(2, "0", "11");
        m.ask(0, 0, 0, 0, 0);
        due('e', m::ending);
        m.ask(1, 0, 0, 0, 0);
        due('l', m::ending);
        m.ask(0, 0, 0, 0, 0);
        due('e', m::ending);
    }

    @Says(promise = 24, value = "if none was asked since all was compiled")
    static void answerAtNeedsAQuestion() {
        looksNeedAQuestion(m -> m.answerAt(0, 0));
        looksNeedAQuestion(m -> m.answerAt(-1, 3));
    }

    @Says(promise = 24, value = "if there is no such answer, or no such argument")
    static void answerAtNeedsAnswerAndArgument() {
        ModedMill m = numbers();
        predicate(m, 0, 0, -1, "1n");
        predicate(m, -1, -1, -1, "0n");
        clause(m, 0, "same 1 0");
        clause(m, 0, "build 1 1 0");
        clause(m, 0, "build 0 1 1");
        clause(m, 1);
        m.compile();
        number(m, 0);
        due(2, () -> m.ask(0, 0, 0, 0, 0));
        due("0,0 0,1", () -> answers(m, 2));
        for (int n : new int[] {-1, 2, 3, 50, LEAST, MOST}) {
            due(IO, () -> m.answerAt(n, 0));
            due(IO, () -> m.answerAt(0, n));
            due(IO, () -> m.answerAt(1, n));
        }
        due(1, () -> m.ask(1, 0, 0, 0, 0));
        due(IO, () -> m.answerAt(0, 0));
        // Those of an earlier question are gone.
        due(3, () -> m.ask(0, 0, 1, 0, 0));
        due(0, () -> m.answerAt(2, 1));
        due(2, () -> m.ask(0, 0, 0, 0, 0));
        due(IO, () -> m.answerAt(2, 1));
    }

    @Says(promise = 24, value = "the answer, from 0")
    static void answersAreInTheirOrder() {
        ModedMill m = bare(2, with(FIFTY, "0"));
        m.ask(0, 0, 0, 0, 0);
        due(50, () -> m.multiplicity(49));
        ModedMill n = denying();
        due(3, () -> n.ask(1, 0, 0, 0, 0));
        due("0 1 2", () -> answers(n, 1));
    }

    @Says(promise = 24, value = "Returns the value of an argument in an answer of the last question, inputs included")
    static void answersTellInputsToo() {
        ModedMill m = numbers();
        predicate(m, 0, 0, 0, "2n", "7n");
        clause(m, 0, "build 0 1 1", "build 2 1 0");
        m.compile();
        number(m, 1);
        due(1, () -> m.ask(0, 0, 0, 1, 0));
        due("2,1,3", () -> answers(m, 3));
        due(1, () -> m.ask(0, 1, 1, 0, 2));
        due("1,0,2", () -> answers(m, 3));
    }

    @Says(promise = 25, value = "if none was asked since all was compiled")
    static void multiplicityNeedsAQuestion() {
        looksNeedAQuestion(m -> m.multiplicity(0));
        looksNeedAQuestion(m -> m.multiplicity(-1));
    }

    @Says(promise = 25, value = "if there is no such answer")
    static void multiplicityNeedsAnAnswer() {
        ModedMill m = bare(2, "0", "0");
        due(2, () -> m.ask(0, 0, 0, 0, 0));
        for (int n : new int[] {-1, 2, 50, LEAST, MOST}) due(IO, () -> m.multiplicity(n));
        due(2, () -> m.multiplicity(1));
        due(0, () -> m.ask(1, 0, 0, 0, 0));
        due(IO, () -> m.multiplicity(0));
    }

    @Says(promise = 25, value = "the answer, from 0")
    static void multiplicitiesAreThoseOfTheirAnswers() {
        ModedMill m = numbers();
        predicate(m, 0, -1, -1, "0n");
        clause(m, 0, "build 0 0");
        clause(m, 0, "build 3 0", "build 0 1 3");
        clause(m, 0, "build 3 0", "build 0 1 3");
        m.compile();
        due(3, () -> m.ask(0, 0, 0, 0, 0));
        due(1, () -> m.multiplicity(0));
        due(2, () -> m.multiplicity(1));
        due(2, () -> m.multiplicity(2));
    }

    @Says(promise = 25, value = "Returns the number of answers, itself included")
    static void likeAnswersAreCounted() {
        ModedMill m = numbers();
        predicate(m, 0, 0, 0, "0n");
        // (z, z, s(z)) three times, (z, s(z), z) twice, (s(z), z, z) once.
        for (int odd : new int[] {2, 1, 2, 0, 1, 2}) {
            clause(m, 0, "build 3 0", "build " + odd + " 1 3", "same " + (odd + 1) % 3 + " 3",
                    "same " + (odd + 2) % 3 + " 3");
        }
        m.compile();
        due(6, () -> m.ask(0, 0, 0, 0, 0));
        int[] like = {3, 2, 3, 1, 2, 3};
        for (int a = 0; a < 6; a++) {
            int answer = a;
            due(like[a], () -> m.multiplicity(answer));
        }
        due(6, m::answersByBreadth);
        // What variables that are no arguments have makes no difference.
        ModedMill n = numbers();
        predicate(n, 0, -1, -1, "0n");
        clause(n, 0, "build 0 0", "build 1 0", "build 2 0");
        clause(n, 0, "build 0 0", "build 1 1 0", "build 2 0");
        clause(n, 0, "build 0 0", "build 1 0", "build 2 1 1");
        predicate(n, -1, -1, -1, "0n");
        clause(n, 1, "build 0 0", "build 1 0");
        clause(n, 1, "build 1 0", "build 0 1 1");
        n.compile();
        due(3, () -> n.ask(0, 0, 0, 0, 0));
        for (int a = 0; a < 3; a++) {
            int answer = a;
            due(3, () -> n.multiplicity(answer));
        }
        due(2, () -> n.ask(1, 0, 0, 0, 0));
        due(2, () -> n.multiplicity(0));
        n.open();
        predicate(n, 0, 0, -1, "0n");
        clause(n, 2, "build 0 0", "build 1 0", "build 2 0");
        clause(n, 2, "build 0 0", "build 1 0", "build 2 1 1");
        n.compile();
        due(2, () -> n.ask(2, 0, 0, 0, 0));
        due(2, () -> n.multiplicity(1));
    }

    @Says(promise = 26, value = "if none was asked since all was compiled")
    static void answersByBreadthNeedsAQuestion() {
        looksNeedAQuestion(ModedMill::answersByBreadth);
        ModedMill m = bare(1, "00");
        m.ask(0, 0, 0, 0, 0);
        due(UN, m::answersByBreadth);
        m.open();
        due(NS, m::answersByBreadth);
    }

    @Says(promise = 26, value = "if it cannot be answered by breadth")
    static void whatHasNoEndCannotBeAnsweredByBreadth() {
        ModedMill m = bare(3, "0", "00", "1", "1", "2-0");
        due(30, () -> m.ask(0, 0, 0, 0, 0));
        due(UN, m::answersByBreadth);
        due(UN, m::answersByBreadth);
        due(2, () -> m.ask(1, 0, 0, 0, 0));
        due(2, m::answersByBreadth);
        due(2, m::answersByBreadth);
        due(0, () -> m.ask(2, 0, 0, 0, 0));
        due(0, m::answersByBreadth);
    }

    @Says(promise = 26, value = "the last question")
    static void breadthIsOfTheLastQuestion() {
        ModedMill m = numbers();
        predicate(m, 0, -1, -1, "1n");
        predicate(m, 0, -1, -1, "0n");
        predicate(m, 0, -1, -1, "1n");
        clause(m, 0, "call 1 0");
        clause(m, 1, "build 0 0");
        clause(m, 1, "build 0 1 3", "build 3 0");
        clause(m, 1, "build 0 1 3", "build 3 0");
        clause(m, 2, "call 2 0");
        m.compile();
        number(m, 0);
        int[] due = {1, 2, 0};
        for (int n = 0; n < 3; n++) {
            // Terms that are made later stand for themselves, too.
            int term = number(m, n);
            int count = due[n];
            due(count, () -> m.ask(0, 0, term, 0, 0));
            due(count, m::answersByBreadth);
            due(3, () -> m.ask(1, 0, 0, 0, 0));
            due(3, m::answersByBreadth);
            due(0, () -> m.ask(2, 0, term, 0, 0));
            due(UN, m::answersByBreadth);
            due(count, () -> m.ask(0, 0, term, 0, 0));
            due(count, m::answersByBreadth);
        }
        // A question that is refused is not the last one.
        due(IA, () -> m.ask(1, 0, 1, 0, 0));
        due(0, m::answersByBreadth);
        due(3, () -> m.ask(1, 0, 0, 0, 0));
        due(IO, () -> m.ask(0, 0, 3, 0, 0));
        due(3, m::answersByBreadth);
    }

    @Says(promise = 26, value = "Returns how many answers the last question has by breadth")
    static void aBreadthThatWasGivenUpIsForgotten() {
        // It was given up in a denied call, in another one.
        ModedMill m = bare(4, "0-1", "1-2", "22", "3", "3");
        due(0, () -> m.ask(0, 0, 0, 0, 0));
        due(UN, m::answersByBreadth);
        due(2, () -> m.ask(3, 0, 0, 0, 0));
        due(2, m::answersByBreadth);
    }

    @Says(promise = 26, value = "Returns how many answers the last question has by breadth")
    static void breadthHasNoLimitOfFiftyAnswers() {
        ModedMill m = bare(2, with(FIFTY, "0", "011"));
        due(50, () -> m.ask(0, 0, 0, 0, 0));
        due(55, m::answersByBreadth);
        due(50, () -> m.multiplicity(0));
        // Nor one of depth; and it makes no terms that have numbers.
        ModedMill n = counting();
        number(n, 31);
        due(0, () -> n.ask(0, 0, 31, 0, 0));
        due(1, n::answersByBreadth);
        ModedMill k = numbers();
        predicate(k, 0, -1, -1, "1n");
        predicate(k, 0, 0, -1, "1n");
        clause(k, 0, "build 0 0", "build 3 1 0", "call 1 3 0");
        clause(k, 1, "build 0 0", "build 1 1 0");
        k.compile();
        number(k, 0);
        due(0, () -> k.ask(0, 0, 0, 0, 0));
        due(2, k::terms);
        due(0, k::answersByBreadth);
        due(2, k::terms);
    }

    @Says(promise = 27, value = "if none was asked since all was compiled")
    static void stepsNeedsAQuestion() {
        looksNeedAQuestion(ModedMill::steps);
    }

    @Says(promise = 27, value = "Returns the number of steps, those of denied calls included")
    static void stepsOfDeniedCallsCount() {
        ModedMill m = bare(4, "0-1", "123", "2", "2", "3");
        due("0 e 3 1", () -> asked(m, 0, 0, 0, 0, 0));
        due(3, m::steps);
        due(0, () -> m.ask(2, 0, 0, 0, 0) - 2);
        due(0, m::steps);
    }

    @Says(promise = 28, value = "if none was asked since all was compiled")
    static void choicePointsNeedsAQuestion() {
        looksNeedAQuestion(ModedMill::choicePoints);
    }

    @Says(promise = 28, value = "Returns the number of choice points, those of denied calls included")
    static void choicePointsOfDeniedCallsCount() {
        ModedMill m = bare(3, "0-1", "122", "1", "2", "2");
        due("0 e 3 3", () -> asked(m, 0, 0, 0, 0, 0));
        due(3, m::choicePoints);
        due("1 e 0 0", () -> asked(bare(1, "0"), 0, 0, 0, 0, 0));
    }

    @Says(promise = 29, value = "if none was asked since all was compiled")
    static void deepestNeedsAQuestion() {
        looksNeedAQuestion(ModedMill::deepest);
    }

    @Says(promise = 29, value = "Returns how deep the deepest call of the last question was")
    static void theDeepestCallIsTold() {
        ModedMill m = bare(5, "01", "12", "1", "2", "3-0", "412");
        m.ask(0, 0, 0, 0, 0);
        due(3, m::deepest);
        m.ask(3, 0, 0, 0, 0);
        due(4, m::deepest);
        // The latest call is not the deepest one.
        m.ask(4, 0, 0, 0, 0);
        due(3, m::deepest);
        m.ask(2, 0, 0, 0, 0);
        due(1, m::deepest);
    }

    @Says(promise = 30, value = "if none was asked since all was compiled")
    static void recordedNeedsAQuestion() {
        looksNeedAQuestion(ModedMill::recorded);
    }

    @Says(promise = 30, value = "Returns the number of things")
    static void thingsAreCounted() {
        ModedMill m = bare(3, "0", "1", "1", "20", "21");
        m.ask(2, 0, 0, 0, 0);
        due("c201 c2 x2 x201 r201 c102 x102 x201 r102 x102 x201", () -> record(m));
        due(11, m::recorded);
        m.ask(0, 0, 0, 0, 0);
        due(2, m::recorded);
    }

    @Says(promise = 31, value = "if none was asked since all was compiled")
    static void recordAtNeedsAQuestion() {
        looksNeedAQuestion(m -> m.recordAt(0));
        looksNeedAQuestion(m -> m.recordAt(-1));
    }

    @Says(promise = 31, value = "if there is no such place")
    static void recordAtNeedsAPlace() {
        ModedMill m = bare(2, "01", "1");
        m.ask(0, 0, 0, 0, 0);
        due('x', () -> m.recordAt(3));
        for (int index : new int[] {-1, 4, 80, LEAST, MOST}) due(IO, () -> m.recordAt(index));
        m.ask(1, 0, 0, 0, 0);
        due('x', () -> m.recordAt(1));
        due(IO, () -> m.recordAt(2));
    }

    @Says(promise = 31, value = "its place, from 0")
    static void thingsAreOnRecordInTheirOrder() {
        ModedMill m = bare(3, "012", "1");
        m.ask(0, 0, 0, 0, 0);
        due('c', () -> m.recordAt(0));
        due('x', () -> m.recordAt(2));
        due('c', () -> m.recordAt(3));
        due('f', () -> m.recordAt(4));
    }

    @Says(promise = 31, value = "Returns 'c', 'x', 'r' or 'f'")
    static void allFourThingsAreTold() {
        ModedMill m = bare(2, "01", "0");
        m.ask(0, 0, 0, 0, 0);
        char[] signs = {'c', 'c', 'f', 'r', 'x'};
        for (int i = 0; i < 5; i++) {
            int index = i;
            due(signs[i], () -> m.recordAt(index));
        }
    }

    @Says(promise = 32, value = "if none was asked since all was compiled")
    static void whereAtNeedsAQuestion() {
        looksNeedAQuestion(m -> m.whereAt(0));
        looksNeedAQuestion(m -> m.whereAt(-1));
    }

    @Says(promise = 32, value = "if there is no such place")
    static void whereAtNeedsAPlace() {
        ModedMill m = bare(2, "01", "1");
        m.ask(0, 0, 0, 0, 0);
        due(1, () -> m.whereAt(3));
        for (int index : new int[] {-1, 4, 80, LEAST, MOST}) due(IO, () -> m.whereAt(index));
        m.ask(1, 0, 0, 0, 0);
        due(101, () -> m.whereAt(1));
        due(IO, () -> m.whereAt(2));
    }

    @Says(promise = 32, value = "its place, from 0")
    static void placesAreOnRecordInTheirOrder() {
        ModedMill m = bare(3, "012", "1");
        m.ask(0, 0, 0, 0, 0);
        int[] places = {1, 102, 102, 202, 202};
        for (int i = 0; i < 5; i++) {
            int index = i;
            due(places[i], () -> m.whereAt(index));
        }
    }

    @Says(promise = 32, value = "Returns 100 times the predicate plus how deep the call is")
    static void placesTellPredicateAndDepth() {
        ModedMill m = bare(5, "44", "01");
        m.ask(4, 0, 0, 0, 0);
        due(401, () -> m.whereAt(0));
        due(430, () -> m.whereAt(29));
        m.ask(0, 0, 0, 0, 0);
        due(1, () -> m.whereAt(0));
        due(102, () -> m.whereAt(1));
    }

    @Says(promise = 33, value = "Returns the number of terms")
    static void termsAreCounted() {
        ModedMill m = numbers();
        predicate(m, 0, 0, -1, "1n");
        clause(m, 0, "build 1 1 0");
        due(0, m::terms);
        m.term(0, 0, 0);
        m.term(0, 0, 0);
        due(1, m::terms);
        due(IO, () -> m.term(1, 1, 0));
        due(1, m::terms);
        m.compile();
        m.ask(0, 0, 0, 0, 0);
        due(2, m::terms);
        m.ask(0, 0, 0, 0, 0);
        due(2, m::terms);
        m.open();
        due(2, m::terms);
    }

    @Says(promise = 34, value = "if it is not compiled")
    static void onceShareNeedsAllCompiled() {
        ModedMill m = bare(1, "0");
        due(1f, m::onceShare);
        m.open();
        due(IS, m::onceShare);
        due(IS, () -> new ModedMill().onceShare());
    }

    @Says(promise = 34, value = "if no mode is good")
    static void onceShareNeedsAGoodMode() {
        ModedMill m = numbers();
        m.compile();
        due(AR, m::onceShare);
        m.open();
        predicate(m, 0, -1, -1, "0d");
        clause(m, 0, "same 0 0");
        due(1, m::compile);
        due(AR, m::onceShare);
        m.open();
        m.addMode(0, 1, 'd');
        due(2, m::compile);
        due(1f, m::onceShare);
    }

    @Says(promise = 34, value = "divided by that of the good modes, both converted to float")
    static void theShareIsOfGoodModes() {
        // Of 0 and 1 each answers at most once, 2 does not, and 3 is not good.
        ModedMill m = numbers();
        for (int p = 0; p < 4; p++) predicate(m, -1, -1, -1, "0n");
        clause(m, 0);
        clause(m, 2);
        clause(m, 2);
        clause(m, 3, "build 3 1 4");
        m.compile();
        due("d", () -> found(m, 0));
        due("s", () -> found(m, 1));
        due(2f / 3f, m::onceShare);
        // Those that repeat, failing or not, are none of them.
        ModedMill n = bare(3, "0", "0", "1", "1", "11", "2-0", "2-0");
        due("n", () -> found(n, 2));
        due(0f, n::onceShare);
        due(1f, bare(2, "0")::onceShare);
    }

    @Says(promise = 35, value = "if none was asked")
    static void meanStepsNeedsAQuestion() {
        looksAtMeanSteps(new ModedMill());
        ModedMill m = bare(1, "0");
        due(AR, m::meanSteps);
        due(IO, () -> m.ask(1, 0, 0, 0, 0));
        due(AR, m::meanSteps);
        m.ask(0, 0, 0, 0, 0);
        due(0.0, m::meanSteps);
        m.open();
        looksAtMeanSteps(m);
    }

    private static void looksAtMeanSteps(ModedMill m) {
        due(AR, m::meanSteps);
        m.compile();
        due(AR, m::meanSteps);
    }

    @Says(promise = 35, value = "Returns the sum of their steps divided by their number, both converted to double")
    static void theMeanIsOfAllQuestions() {
        ModedMill m = bare(3, "0", "100", "2222");
        m.ask(1, 0, 0, 0, 0);
        due(2.0, m::meanSteps);
        m.ask(0, 0, 0, 0, 0);
        due(1.0, m::meanSteps);
        m.ask(0, 0, 0, 0, 0);
        due(2.0 / 3.0, m::meanSteps);
        m.ask(2, 0, 0, 0, 0);
        due(32.0 / 4.0, m::meanSteps);
        due(UN, m::answersByBreadth);
        due(8.0, m::meanSteps);
        m.open();
        m.compile();
        m.ask(1, 0, 0, 0, 0);
        due(2.0, m::meanSteps);
    }

    /** The lines of the promises that name an edge, and for which there is no test. */
    private static int linesWithoutATest() throws IOException {
        String[] sections = sections();
        int count = 0;
        for (int promise = 1; promise < sections.length; promise++) {
            for (String line : sections[promise].split("(?= Throws | Returns | - `)")) {
                boolean isEdge = line.startsWith(" Throws ") || line.contains(", 0 if ") || line.contains("from 0");
                if (isEdge && !isTested(promise, line)) {
                    System.out.println("no test for promise " + promise + ":" + line);
                    count++;
                }
            }
        }
        return count;
    }

    private static boolean isTested(int promise, String line) {
        for (Method test : tests(EdgesOfPromises.class)) {
            Says says = test.getAnnotation(Says.class);
            if (says.promise() == promise && line.contains(says.value())) return true;
        }
        return false;
    }

    public static void main(String[] args) throws Exception {
        run(EdgesOfPromises.class, linesWithoutATest());
    }
}
