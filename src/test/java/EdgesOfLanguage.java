/** The edges that the sections ahead of promise 1 name of terms, modes, clauses, orders, switches and what can be. */
public final class EdgesOfLanguage extends Edge {
    @Says(promise = 0, value = "An object is used for at most 512 calls after it has been made")
    static void the512thCallIsAnswered() {
        ModedMill m = numbers();
        predicate(m, 0, -1, -1, "1n");
        clause(m, 0);
        m.compile();
        m.term(0, 0, 0);
        // The calls 9 to 511 are questions, and call 512 tells their number.
        for (int call = 9; call <= 511; call++) due(1, () -> m.ask(0, 0, 0, 0, 0));
        due(503, m::open);
    }

    @Says(promise = 0, value = "There are at most 3 types, numbered from 0")
    static void typesAreNumbered() {
        ModedMill m = new ModedMill();
        for (int type = 0; type < 3; type++) {
            due(type, m::addType);
        }
        due(IS, m::addType);
        due(0, () -> m.addConstructor(2, 0, 1));
        due(IO, () -> m.addConstructor(3, -1, -1));
    }

    @Says(promise = 0, value = "at most 10 constructors, numbered from 0 over all types")
    static void constructorsAreNumberedOverAllTypes() {
        ModedMill m = new ModedMill();
        for (int type = 0; type < 3; type++) m.addType();
        for (int c = 0; c < 10; c++) {
            int due = c;
            due(due, () -> m.addConstructor(due % 3, -1, -1));
        }
        for (int type = 0; type < 3; type++) {
            int t = type;
            due(IS, () -> m.addConstructor(t, -1, -1));
        }
        due(9, () -> m.constructorOf(m.term(9, 0, 0)));
        due(IO, () -> m.term(10, 0, 0));
    }

    @Says(promise = 0, value = "has 0, 1 or 2 parts, each of a type")
    static void partsAreOfTypesOfTheirOwn() {
        ModedMill m = lists();
        due(0, () -> m.term(0, 0, 0));
        due(1, () -> m.term(2, 0, 0));
        due(2, () -> m.term(1, 0, 0));
        due(3, () -> m.term(3, 2, 1));
        due(IA, () -> m.term(3, 1, 2));
        due(NS, () -> m.partOf(1, 0));
        due(NS, () -> m.partOf(2, 1));
        due(1, () -> m.partOf(3, 1));
    }

    @Says(promise = 0, value = "Terms get numbers from 0, in the order in which they are made for the first time")
    static void termsAreNumberedAsTheyAreMade() {
        ModedMill m = lists();
        predicate(m, 0, -1, -1, "0n");
        clause(m, 0, "build 3 0", "build 0 1 3");
        m.compile();
        due(0, () -> m.term(2, 0, 0));
        due(1, () -> m.ask(0, 0, 0, 0, 0));
        due(2, () -> m.answerAt(0, 0));
        due(1, () -> m.partOf(2, 0));
        due(3, () -> m.term(3, 1, 0));
    }

    @Says(promise = 0, value = "the same term always has the same number")
    static void termsKeepTheirNumbers() {
        ModedMill m = pairs();
        predicate(m, 0, 0, -1, "0n");
        clause(m, 0, "build 0 0", "build 1 2 0 0");
        due(0, () -> m.term(0, 0, 0));
        due(1, () -> m.term(1, 0, 0));
        due(2, () -> m.term(2, 0, 1));
        due(3, () -> m.term(2, 1, 0));
        due(4, () -> m.term(2, 0, 0));
        due(2, () -> m.term(2, 0, 1));
        due(3, () -> m.term(2, 1, 0));
        m.compile();
        due(1, () -> m.ask(0, 0, 0, 0, 0));
        due("0,4", () -> answers(m, 2));
        m.open();
        due(1, () -> m.term(1, 0, 0));
        due(5, m::terms);
    }

    @Says(promise = 0,
            value = "a part has a number ahead of that of its term, and the first part ahead of the second one, if "
                    + "both are new")
    static void partsHaveLowerNumbers() {
        ModedMill m = lists();
        predicate(m, 1, -1, -1, "0n");
        clause(m, 0, "build 0 3 3 4", "build 3 0", "build 4 2");
        m.compile();
        due(1, () -> m.ask(0, 0, 0, 0, 0));
        due(2, () -> m.answerAt(0, 0));
        due(0, () -> m.partOf(2, 0));
        due(1, () -> m.partOf(2, 1));
    }

    @Says(promise = 0, value = "At most 200 terms get numbers")
    static void thereAreTwoHundredTerms() {
        ModedMill m = numbers();
        due(198, () -> number(m, 198));
        due(199, () -> m.term(1, 198, 0));
        due(IS, () -> m.term(1, 199, 0));
        due(200, m::terms);
        due(199, () -> m.term(1, 198, 0));
    }

    @Says(promise = 0, value = "those that the machine makes get numbers, too, also where something fails later")
    static void whatTheMachineMakesGetsNumbers() {
        ModedMill m = pairs();
        predicate(m, 0, -1, -1, "1n");
        predicate(m, 0, -1, -1, "1n");
        // Made and then failed; made for an answer; made in a denied call.
        clause(m, 0, "build 3 2 0 0", "same 3 0");
        clause(m, 0, "build 3 1 0");
        clause(m, 0, "deny 1 0");
        clause(m, 1, "build 3 1 0", "build 4 2 3 0", "same 4 0");
        m.compile();
        due(0, () -> m.term(0, 0, 0));
        due(2, () -> m.ask(0, 0, 0, 0, 0));
        due(4, m::terms);
        due(2, () -> m.constructorOf(1));
        due(1, () -> m.constructorOf(2));
        due(2, () -> m.partOf(3, 0));
        due(4, () -> m.term(2, 0, 2));
    }

    @Says(promise = 0, value = "There are at most 5 predicates, numbered from 0")
    static void predicatesAreNumbered() {
        ModedMill m = numbers();
        for (int p = 0; p < 5; p++) {
            int due = p;
            due(due, () -> m.addPredicate(p4(due, 1), p4(due, 2), p4(due, 3)));
        }
        due(IS, () -> m.addPredicate(-1, -1, -1));
        due(0, () -> m.addMode(4, 0, 'n'));
        due(IO, () -> m.addMode(5, 0, 'n'));
    }

    private static int p4(int predicate, int place) {
        return predicate >= place ? 0 : -1;
    }

    @Says(promise = 0, value = "A predicate has 0 to 3 arguments, each of a type")
    static void predicatesHaveUpToThreeArguments() {
        ModedMill m = lists();
        due(0, () -> predicate(m, -1, -1, -1, "0n"));
        due(1, () -> predicate(m, 1, 0, 1, "7n"));
        clause(m, 0);
        clause(m, 1);
        m.compile();
        m.term(0, 0, 0);
        m.term(2, 0, 0);
        due(1, () -> m.ask(0, 0, 0, 0, 0));
        due(IO, () -> m.answerAt(0, 0));
        due(IA, () -> m.ask(1, 0, 1, 1, 1));
        due(1, () -> m.ask(1, 0, 1, 0, 1));
        due(1, () -> m.answerAt(0, 2));
        due(IO, () -> m.answerAt(0, 3));
    }

    @Says(promise = 0, value = "It has at most 2 modes, numbered from 0")
    static void modesAreNumberedForEachPredicate() {
        ModedMill m = numbers();
        for (int p = 0; p < 2; p++) {
            int due = p;
            due(due, () -> m.addPredicate(0, -1, -1));
            due(0, () -> m.addMode(due, 1, 'n'));
            due(1, () -> m.addMode(due, 1, 'n'));
            due(IS, () -> m.addMode(due, 1, 'n'));
        }
    }

    @Says(promise = 0, value = "told as the sum of 2 to the power of their places; all other arguments are outputs")
    static void inputsAreASumOfPowers() {
        ModedMill m = numbers();
        predicate(m, 0, 0, 0, "3n", "4n");
        clause(m, 0, "same 1 0", "same 2 1");
        m.compile();
        due(0, () -> number(m, 0));
        due(1, () -> number(m, 1));
        due(1, () -> m.ask(0, 0, 1, 1, 0));
        due(IA, () -> m.ask(0, 0, 1, 1, 1));
        due(1, () -> m.ask(0, 1, 0, 0, 1));
        due("1,1,1", () -> answers(m, 3));
        due(IA, () -> m.ask(0, 1, 1, 0, 1));
        due(IA, () -> m.ask(0, 1, 0, 1, 1));
    }

    @Says(promise = 0, value = "There are at most 12 clauses, numbered from 0, each of a predicate")
    static void clausesAreNumberedOverAllPredicates() {
        ModedMill m = numbers();
        for (int p = 0; p < 3; p++) predicate(m, 0, -1, -1, "1n");
        for (int c = 0; c < 12; c++) {
            int due = c;
            due(due, () -> m.addClause(due % 3));
        }
        for (int p = 0; p < 3; p++) {
            int of = p;
            due(IS, () -> m.addClause(of));
        }
        due(0, () -> goal(m, 11, "same 0 0"));
        due(IO, () -> goal(m, 12, "same 0 0"));
    }

    @Says(promise = 0, value = "The clauses of a predicate are in the order in which they were added")
    static void clausesAreInTheOrderOfAdding() {
        ModedMill m = numbers();
        predicate(m, 0, -1, -1, "0n");
        predicate(m, 0, -1, -1, "0n");
        clause(m, 1, "build 3 0", "build 0 1 3");
        clause(m, 0, "build 0 0");
        clause(m, 1, "build 0 0");
        clause(m, 0, "build 3 0", "build 0 1 3");
        m.compile();
        number(m, 1);
        due(2, () -> m.ask(0, 0, 0, 0, 0));
        due("0 1", () -> answers(m, 1));
        due(2, () -> m.ask(1, 0, 0, 0, 0));
        due("1 0", () -> answers(m, 1));
    }

    @Says(promise = 0, value = "A clause has the variables 0 to 7, the first of which are its arguments")
    static void variablesGoToSeven() {
        ModedMill m = lists();
        predicate(m, 0, 1, -1, "1n");
        m.addClause(0);
        due(IO, () -> goal(m, 0, "same 0 8"));
        due(IO, () -> goal(m, 0, "same 0 -1"));
        due(IA, () -> goal(m, 0, "same 0 1"));
        due(0, () -> goal(m, 0, "same 7 0"));
        due(IA, () -> goal(m, 0, "same 2 3"));
        due(1, () -> goal(m, 0, "build 6 2"));
        due(2, () -> goal(m, 0, "build 1 3 7 6"));
        m.compile();
        m.term(0, 0, 0);
        due(1, () -> m.ask(0, 0, 0, 0, 0));
        due(2, () -> m.answerAt(0, 1));
        due(0, () -> m.partOf(2, 0));
    }

    @Says(promise = 0, value = "at most 5 goals, numbered from 0")
    static void goalsAreNumberedForEachClause() {
        ModedMill m = numbers();
        predicate(m, 0, -1, -1, "1n");
        for (int c = 0; c < 2; c++) {
            int of = m.addClause(0);
            for (int g = 0; g < 5; g++) {
                int due = g;
                due(due, () -> goal(m, of, due % 2 == 0 ? "same 0 0" : "call 0 0"));
            }
            due(IS, () -> goal(m, of, "same 0 0"));
            due(IS, () -> goal(m, of, "build 0 0"));
            due(IS, () -> goal(m, of, "deny 0 0"));
        }
        m.compile();
        due("0 1:0 2 3:0 4", () -> order(m, 1, 0));
    }

    @Says(promise = 0,
            value = "A variable is of the type of the argument, or of the type that it has in the first goal that "
                    + "was added with it")
    static void variablesGetTypesFromTheirFirstGoal() {
        ModedMill m = lists();
        predicate(m, 0, 1, -1, "3n");
        m.addClause(0);
        m.addClause(0);
        due(IA, () -> goal(m, 0, "build 1 0"));
        due(0, () -> goal(m, 0, "build 3 3 4 5"));
        due(IA, () -> goal(m, 0, "same 3 4"));
        due(IA, () -> goal(m, 0, "same 3 0"));
        due(1, () -> goal(m, 0, "same 4 0"));
        due(IA, () -> goal(m, 0, "same 5 0"));
        due(2, () -> goal(m, 0, "call 0 6 7"));
        due(IA, () -> goal(m, 0, "same 6 7"));
        due(3, () -> goal(m, 0, "same 6 4"));
        due(4, () -> goal(m, 0, "same 1 7"));
        // The variables of another clause are others, and a same gives a type on.
        due(0, () -> goal(m, 1, "same 3 0"));
        due(IA, () -> goal(m, 1, "build 3 3 0 1"));
        due(1, () -> goal(m, 1, "same 1 4"));
        due(2, () -> goal(m, 1, "same 5 4"));
        due(IA, () -> goal(m, 1, "build 5 0"));
    }

    @Says(promise = 0, value = "Within one goal, variables may be the same")
    static void variablesMayBeTheSame() {
        ModedMill m = lists();
        predicate(m, 0, 0, -1, "3n");
        m.addClause(0);
        due(0, () -> goal(m, 0, "build 0 1 0"));
        due(1, () -> goal(m, 0, "same 1 1"));
        due(2, () -> goal(m, 0, "call 0 1 1"));
        due(3, () -> goal(m, 0, "deny 0 3 3"));
        due(4, () -> goal(m, 0, "build 4 1 4"));
        m.addClause(0);
        // x and its second part are lists, its first part is none.
        due(IA, () -> goal(m, 1, "build 5 3 5 6"));
        due(0, () -> goal(m, 1, "build 5 3 6 5"));
    }

    @Says(promise = 0, value = "At first, those arguments that are inputs have values")
    static void inputsHaveValuesAtFirst() {
        ModedMill m = numbers();
        predicate(m, 0, 0, 0, "4n", "3n");
        clause(m, 0, "same 0 1", "same 1 2");
        m.compile();
        due("1 0", () -> order(m, 0, 0));
        due("0 1", () -> order(m, 0, 1));
        ModedMill n = numbers();
        predicate(n, 0, -1, -1, "0n");
        clause(n, 0, "same 0 0");
        due(1, n::compile);
        due("", () -> order(n, 0, 0));
    }

    @Says(promise = 0,
            value = "Again and again, the goal with the lowest number that is not in the order yet and can be taken "
                    + "is taken next")
    static void theLowestGoalIsTakenAgainAndAgain() {
        ModedMill m = numbers();
        predicate(m, 0, -1, -1, "1n");
        clause(m, 0, "build 1 1 3", "build 3 0", "same 4 0");
        clause(m, 0, "build 1 1 3", "build 3 1 4", "build 4 1 5", "same 6 5", "same 5 0");
        m.compile();
        due("1 0 2", () -> order(m, 0, 0));
        due("4 2 1 0 3", () -> order(m, 1, 0));
    }

    @Says(promise = 0, value = "then all of its variables have values")
    static void whatIsTakenGivesValues() {
        ModedMill m = lists();
        predicate(m, 1, -1, -1, "1n");
        predicate(m, 1, 0, 0, "1n");
        clause(m, 0, "build 4 1 3", "build 0 3 3 5");
        clause(m, 0, "build 4 1 3", "call 1 0 5 3");
        clause(m, 0, "build 3 3 4 5", "same 3 0");
        clause(m, 1, "build 1 0", "build 2 0");
        due(0, m::compile);
        due("1 0", () -> order(m, 0, 0));
        due("1:0 0", () -> order(m, 1, 0));
        due("1 0", () -> order(m, 2, 0));
    }

    @Says(promise = 0, value = "A build can be taken if x has a value, or all of its parts have")
    static void buildsNeedXOrAllParts() {
        ModedMill m = lists();
        predicate(m, 1, -1, -1, "0n", "1n");
        predicate(m, 1, -1, -1, "0n");
        clause(m, 0, "build 0 3 3 4", "build 3 0", "build 4 2");
        clause(m, 1, "build 0 3 3 4", "build 3 0");
        clause(m, 1, "build 0 3 3 4", "build 4 2");
        due(1, m::compile);
        due("1 2 0", () -> order(m, 0, 0));
        due("0 1 2", () -> order(m, 0, 1));
        due("1", () -> order(m, 1, 0));
        due("1", () -> order(m, 2, 0));
        due('o', () -> m.fault(1, 0));
    }

    @Says(promise = 0, value = "A same can be taken if one of both has a value")
    static void samesNeedOneValue() {
        ModedMill m = numbers();
        predicate(m, 0, -1, -1, "1n");
        clause(m, 0, "same 0 3");
        clause(m, 0, "same 4 0");
        clause(m, 0, "same 0 0");
        clause(m, 0, "build 3 1 4", "same 3 4");
        clause(m, 0, "build 3 1 4", "same 3 3");
        due(1, m::compile);
        due("0", () -> order(m, 0, 0));
        due("0", () -> order(m, 1, 0));
        due("0", () -> order(m, 2, 0));
        due("", () -> order(m, 3, 0));
        due("", () -> order(m, 4, 0));
    }

    @Says(promise = 0,
            value = "A call can be taken if there is a mode of its predicate all of whose inputs have values; the "
                    + "one with the lowest number is chosen")
    static void callsTakeTheLowestMode() {
        ModedMill m = numbers();
        predicate(m, 0, 0, -1, "3n");
        predicate(m, 0, 0, -1, "3n", "1n");
        predicate(m, 0, 0, -1, "1n", "3n");
        predicate(m, 0, -1, -1);
        clause(m, 0, "call 1 0 3");
        clause(m, 0, "call 1 0 1");
        clause(m, 0, "call 2 0 1");
        clause(m, 0, "call 2 3 0", "same 3 1");
        clause(m, 0, "call 0 0 3", "call 1 3 0");
        clause(m, 0, "call 3 0");
        due(1, m::compile);
        due("0:1", () -> order(m, 0, 0));
        due("0:0", () -> order(m, 1, 0));
        due("0:0", () -> order(m, 2, 0));
        due("1 0:0", () -> order(m, 3, 0));
        due("", () -> order(m, 4, 0));
        due("", () -> order(m, 5, 0));
    }

    @Says(promise = 0,
            value = "A denied call can be taken if there is such a mode, which is chosen likewise, and all of its "
                    + "variables have values")
    static void deniedCallsNeedAllValues() {
        ModedMill m = numbers();
        predicate(m, 0, -1, -1, "1n");
        predicate(m, 0, 0, -1, "1n", "2n");
        predicate(m, 0, -1, -1, "0n");
        predicate(m, 0, -1, -1);
        clause(m, 0, "deny 1 0 3", "build 3 0");
        clause(m, 0, "deny 1 3 0", "build 3 0");
        clause(m, 0, "deny 2 3", "build 3 0");
        clause(m, 0, "deny 1 0 3");
        clause(m, 0, "deny 3 0");
        m.compile();
        due("1 0:0", () -> order(m, 0, 0));
        due("1 0:0", () -> order(m, 1, 0));
        due("1 0:0", () -> order(m, 2, 0));
        due("", () -> order(m, 3, 0));
        due("", () -> order(m, 4, 0));
        due('o', () -> m.fault(0, 0));
    }

    @Says(promise = 0, value = "If a goal is left")
    static void aGoalThatIsLeftIsAFault() {
        ModedMill m = numbers();
        predicate(m, -1, -1, -1, "0n");
        predicate(m, -1, -1, -1, "0n");
        predicate(m, 0, -1, -1, "1n");
        clause(m, 0);
        clause(m, 0, "build 4 0", "build 3 1 4");
        clause(m, 1);
        clause(m, 1, "build 3 1 4");
        clause(m, 2, "same 0 0", "build 3 1 4");
        due(2, m::compile);
        due('-', () -> m.fault(0, 0));
        due('o', () -> m.fault(1, 0));
        due('o', () -> m.fault(2, 0));
        due("0", () -> order(m, 4, 0));
    }

    @Says(promise = 0, value = "or an argument of the clause has no value in the end, the mode has the fault 'o'")
    static void anArgumentWithoutAValueIsAFault() {
        ModedMill m = numbers();
        predicate(m, 0, 0, 0, "5n", "7n");
        predicate(m, 0, 0, 0, "3n", "6n");
        predicate(m, 0, -1, -1, "0n");
        clause(m, 0, "same 0 2");
        clause(m, 1);
        due(3, m::compile);
        due('o', () -> m.fault(0, 0));
        due('-', () -> m.fault(0, 1));
        due('o', () -> m.fault(1, 0));
        due('o', () -> m.fault(1, 1));
        // No clause, no fault.
        due('-', () -> m.fault(2, 0));
    }

    @Says(promise = 0,
            value = "A mode is good if it has no fault 'o', and no mode that is chosen in its clauses has, nor one "
                    + "chosen in the clauses of these, and so on")
    static void badModesSpread() {
        ModedMill m = numbers();
        for (int p = 0; p < 5; p++) predicate(m, -1, -1, -1, "0n");
        clause(m, 0, "call 1");
        clause(m, 1, "deny 2");
        clause(m, 2);
        clause(m, 2, "call 3");
        clause(m, 3, "build 3 1 4");
        clause(m, 4, "call 4");
        due(1, m::compile);
        for (int p = 0; p < 4; p++) {
            int of = p;
            due(false, () -> m.isGood(of, 0));
            due(p == 3 ? 'o' : '-', () -> m.fault(of, 0));
        }
        due(true, () -> m.isGood(4, 0));
        // Only the mode that is chosen counts.
        ModedMill n = numbers();
        predicate(n, 0, -1, -1, "1n");
        predicate(n, 0, -1, -1, "1n", "0n");
        clause(n, 0, "call 1 0");
        clause(n, 1, "same 0 0");
        due(1, n::compile);
        due('o', () -> n.fault(1, 1));
        due(true, () -> n.isGood(0, 0));
    }

    @Says(promise = 0, value = "it fails if x has another constructor")
    static void anotherConstructorFails() {
        ModedMill m = pairs();
        predicate(m, 0, -1, -1, "1n");
        clause(m, 0, "same 0 0", "build 0 1 3");
        m.compile();
        number(m, 1);
        m.term(2, 0, 0);
        due("0 e 2 0", () -> asked(m, 0, 0, 0, 0, 0));
        due("1 e 2 0", () -> asked(m, 0, 0, 1, 0, 0));
        due("0 e 2 0", () -> asked(m, 0, 0, 2, 0, 0));
    }

    @Says(promise = 0, value = "those parts that have no value get it")
    static void partsGetTheirValues() {
        ModedMill m = lists();
        predicate(m, 1, 0, 1, "1n");
        clause(m, 0, "build 0 3 1 2");
        m.compile();
        number(m, 1);
        m.term(2, 0, 0);
        m.term(3, 1, 2);
        due(1, () -> m.ask(0, 0, 3, 0, 0));
        due("3,1,2", () -> answers(m, 3));
    }

    @Says(promise = 0, value = "it fails if one that has a value")
    static void aPartWithAnotherValueFails() {
        ModedMill m = pairs();
        predicate(m, 0, 0, 0, "7n");
        clause(m, 0, "build 0 2 1 2");
        m.compile();
        number(m, 1);
        m.term(2, 0, 1);
        due(1, () -> m.ask(0, 0, 2, 0, 1));
        due(0, () -> m.ask(0, 0, 2, 1, 1));
        due(0, () -> m.ask(0, 0, 2, 0, 0));
    }

    @Says(promise = 0, value = "or is the same variable as one ahead of it, has another one")
    static void aPartThatStandsTwiceFails() {
        ModedMill m = pairs();
        predicate(m, 0, 0, -1, "1n");
        predicate(m, 0, -1, -1, "1n");
        clause(m, 0, "build 0 2 1 1");
        clause(m, 1, "build 0 1 0");
        m.compile();
        number(m, 1);
        m.term(2, 0, 1);
        m.term(2, 1, 1);
        due(0, () -> m.ask(0, 0, 2, 0, 0));
        due(1, () -> m.ask(0, 0, 3, 0, 0));
        due(1, () -> m.answerAt(0, 1));
        // x itself, which has a value, is never its own part.
        due(0, () -> m.ask(1, 0, 1, 0, 0));
    }

    @Says(promise = 0, value = "Otherwise it makes a term, which x gets")
    static void aBuildMakesATerm() {
        ModedMill m = pairs();
        predicate(m, 0, 0, 0, "3n");
        clause(m, 0, "build 2 2 1 0");
        m.compile();
        number(m, 1);
        due(1, () -> m.ask(0, 0, 0, 1, 0));
        due("0,1,2", () -> answers(m, 3));
        due(2, () -> m.constructorOf(2));
        due(1, () -> m.partOf(2, 0));
        due(0, () -> m.partOf(2, 1));
        due(3, m::terms);
    }

    @Says(promise = 0, value = "A same gives a value on")
    static void aSameGivesAValueOn() {
        ModedMill m = numbers();
        predicate(m, 0, 0, -1, "1n", "2n");
        clause(m, 0, "same 0 1");
        m.compile();
        number(m, 1);
        due(1, () -> m.ask(0, 0, 1, 0, 0));
        due("1,1", () -> answers(m, 2));
        due(1, () -> m.ask(0, 1, 0, 1, 0));
        due("1,1", () -> answers(m, 2));
    }

    @Says(promise = 0, value = "or fails if both have unlike ones")
    static void aSameOfUnlikeValuesFails() {
        ModedMill m = numbers();
        predicate(m, 0, 0, -1, "3n");
        clause(m, 0, "same 0 1");
        m.compile();
        number(m, 1);
        due("1 e 1 0", () -> asked(m, 0, 0, 1, 1, 0));
        due("0 e 1 0", () -> asked(m, 0, 0, 0, 1, 0));
        due("0 e 1 0", () -> asked(m, 0, 0, 1, 0, 0));
    }

    @Says(promise = 0, value = "A call hands over the values of the inputs of the mode that is chosen")
    static void callsHandOverInputsAlone() {
        ModedMill m = numbers();
        predicate(m, 0, -1, -1, "1n");
        predicate(m, 0, 0, -1, "1n");
        // The output of 1 is z, whatever its caller has: 1 is left, and only then something fails.
        clause(m, 0, "call 1 0 0");
        clause(m, 1, "build 1 0");
        m.compile();
        number(m, 1);
        due(1, () -> m.ask(0, 0, 0, 0, 0));
        due(0, () -> m.ask(0, 0, 1, 0, 0));
        due("c1 c102 x102", () -> record(m));
    }

    @Says(promise = 0, value = "for this answer it fails if one that has a value")
    static void anOutputWithAnotherValueFails() {
        ModedMill m = numbers();
        predicate(m, 0, -1, -1, "1n");
        predicate(m, 0, -1, -1, "0n");
        clause(m, 0, "call 1 0");
        clause(m, 1, "build 0 0");
        clause(m, 1, "build 3 0", "build 0 1 3");
        m.compile();
        number(m, 2);
        due(1, () -> m.ask(0, 0, 0, 0, 0));
        due("c1 c102 x102 x1 r102 x102", () -> record(m));
        due(1, () -> m.ask(0, 0, 1, 0, 0));
        due("c1 c102 x102 r102 x102 x1", () -> record(m));
        due(0, () -> m.ask(0, 0, 2, 0, 0));
    }

    @Says(promise = 0, value = "or is the same variable as an output ahead of it, has another one")
    static void anOutputThatStandsTwiceFails() {
        ModedMill m = numbers();
        predicate(m, 0, -1, -1, "0n");
        predicate(m, 0, 0, -1, "0n");
        clause(m, 0, "call 1 0 0");
        clause(m, 1, "build 0 0", "build 1 1 0");
        clause(m, 1, "build 0 0", "same 1 0");
        m.compile();
        due(1, () -> m.ask(0, 0, 0, 0, 0));
        due(0, () -> m.answerAt(0, 0));
        due("c1 c102 x102 r102 x102 x1", () -> record(m));
    }

    @Says(promise = 0, value = "A mode of a predicate has a switch on an input if the predicate has clauses")
    static void noClauseNoSwitch() {
        ModedMill m = numbers();
        predicate(m, 0, -1, -1, "1n");
        predicate(m, 0, 0, 0, "7n");
        predicate(m, 0, 0, 0, "7n");
        clause(m, 1, "build 2 0");
        clause(m, 2, "build 1 0");
        m.compile();
        due(NS, () -> m.switchOf(0, 0));
        due(2, () -> m.switchOf(1, 0));
        due(1, () -> m.switchOf(2, 0));
    }

    @Says(promise = 0, value = "the first goal in the order of each of them is a build")
    static void switchesLookAtTheFirstGoalInOrder() {
        ModedMill m = numbers();
        predicate(m, 0, -1, -1, "1n");
        predicate(m, 0, -1, -1, "1n");
        predicate(m, 0, -1, -1, "1n");
        predicate(m, 0, -1, -1, "1n");
        // Added behind another goal, but taken ahead of it.
        clause(m, 0, "build 4 1 3", "build 0 1 3");
        clause(m, 0, "build 0 0");
        // One clause begins with a same; one with a call; one has no goals.
        clause(m, 1, "build 0 0");
        clause(m, 1, "same 3 0", "build 0 1 4");
        clause(m, 2, "call 1 0", "build 0 0");
        clause(m, 3, "build 0 0");
        clause(m, 3);
        m.compile();
        due(0, () -> m.switchOf(0, 0));
        due(NS, () -> m.switchOf(1, 0));
        due(NS, () -> m.switchOf(2, 0));
        due(NS, () -> m.switchOf(3, 0));
    }

    @Says(promise = 0, value = "is a build whose x is the variable of this input")
    static void switchesAreOnOneInput() {
        ModedMill m = numbers();
        predicate(m, 0, 0, -1, "3n", "2n");
        predicate(m, 0, 0, -1, "3n");
        predicate(m, 0, -1, -1, "1n");
        clause(m, 0, "build 0 0");
        clause(m, 0, "build 0 1 3", "build 3 0");
        clause(m, 1, "build 0 0");
        clause(m, 1, "build 1 1 3");
        clause(m, 2, "build 3 0");
        m.compile();
        due(0, () -> m.switchOf(0, 0));
        // There 0 is an output; in 1 the inputs are unlike; in 2 it is no argument.
        due(NS, () -> m.switchOf(0, 1));
        due(NS, () -> m.switchOf(1, 0));
        due(NS, () -> m.switchOf(2, 0));
    }

    @Says(promise = 0, value = "and all of their constructors are unlike")
    static void switchesNeedUnlikeConstructors() {
        ModedMill m = numbers();
        predicate(m, 0, -1, -1, "1n");
        predicate(m, 0, -1, -1, "1n");
        clause(m, 0, "build 0 1 3");
        clause(m, 0, "build 0 0");
        clause(m, 1, "build 0 1 3");
        clause(m, 1, "build 0 0");
        clause(m, 1, "build 0 1 4");
        m.compile();
        due(0, () -> m.switchOf(0, 0));
        due(NS, () -> m.switchOf(1, 0));
    }

    /**
     * A language for what can be found: predicate 0 has so many arguments of type 0 and one mode with these inputs.
     * 1 is like(in, out), which does not fail; 2 is some(out), which answers twice; 3 is zero(in), which can fail;
     * 4 is two(out, out), which does not fail and answers once. A clause is a text of goals with semicolons.
     */
    static String foundOf(int arity, int inputs, String... clauses) {
        ModedMill m = pairs();
        predicate(m, arity > 0 ? 0 : -1, arity > 1 ? 0 : -1, arity > 2 ? 0 : -1, inputs + "n");
        predicate(m, 0, 0, -1, "1n");
        predicate(m, 0, -1, -1, "0n");
        predicate(m, 0, -1, -1, "1n");
        predicate(m, 0, 0, -1, "0n");
        clause(m, 1, "same 1 0");
        clause(m, 2, "build 0 0");
        clause(m, 2, "build 3 0", "build 0 1 3");
        clause(m, 3, "build 0 0");
        clause(m, 4, "build 0 0", "build 1 0");
        for (String text : clauses) clause(m, 0, text.isEmpty() ? new String[0] : text.split(";"));
        m.compile();
        due("dmsd", () -> found(m, 1) + found(m, 2) + found(m, 3) + found(m, 4));
        return "" + told(() -> m.found(0, 0));
    }

    @Says(promise = 0, value = "Found for all good modes together, it is the least that holds")
    static void whatIsFoundIsTheLeast() {
        ModedMill m = bare(5, "00", "12", "21", "34");
        due("d", () -> found(m, 0));
        due("d", () -> found(m, 1));
        due("d", () -> found(m, 2));
        // It spreads from 4, which has no clause, against the order of numbers, too.
        due("s", () -> found(m, 4));
        due("s", () -> found(m, 3));
        ModedMill n = bare(4, "01", "12", "23", "3", "3");
        for (int p = 0; p < 4; p++) {
            int of = p;
            due("m", () -> found(n, of));
        }
        // Only good modes have something found.
        ModedMill k = numbers();
        predicate(k, -1, -1, -1, "0n");
        clause(k, 0, "build 3 1 4");
        k.compile();
        due(NS, () -> k.found(0, 0));
    }

    @Says(promise = 0, value = "a build that takes x apart")
    static void aBuildThatTakesApartCanFail() {
        due("s", () -> foundOf(1, 1, "same 3 0;build 3 0"));
        due("s", () -> foundOf(1, 1, "same 3 0;build 3 1 4"));
        due("d", () -> foundOf(1, 1, "build 3 0"));
        due("d", () -> foundOf(1, 1, "build 3 1 0;build 4 2 0 3"));
    }

    @Says(promise = 0, value = "a same of which both have values when it is taken")
    static void aSameOfTwoValuesCanFail() {
        due("s", () -> foundOf(2, 3, "same 0 1"));
        due("s", () -> foundOf(1, 1, "same 0 0"));
        due("d", () -> foundOf(2, 1, "same 0 1"));
        due("d", () -> foundOf(2, 2, "same 0 1"));
    }

    @Says(promise = 0, value = "a denied call;")
    static void aDeniedCallCanFail() {
        due("s", () -> foundOf(2, 3, "deny 1 0 1"));
        due("s", () -> foundOf(1, 1, "deny 3 0"));
    }

    @Says(promise = 0, value = "a call, if the mode that is chosen can fail")
    static void aCallOfWhatCanFailCanFail() {
        due("s", () -> foundOf(1, 1, "call 3 0"));
        due("d", () -> foundOf(2, 1, "call 1 0 1"));
    }

    @Says(promise = 0, value = "or if one of its outputs has a value when it is taken")
    static void anOutputThatHasAValueCanFail() {
        due("s", () -> foundOf(2, 3, "call 1 0 1"));
        due("s", () -> foundOf(1, 1, "call 1 0 0"));
        due("s", () -> foundOf(1, 1, "call 4 3 0"));
        due("d", () -> foundOf(1, 1, "call 4 3 4"));
    }

    @Says(promise = 0, value = "or is the same variable as an output ahead of it.")
    static void anOutputThatStandsTwiceCanFail() {
        due("s", () -> foundOf(0, 0, "call 4 3 3"));
        due("d", () -> foundOf(0, 0, "call 4 3 4"));
        // Two inputs that are the same variable cannot fail.
        ModedMill m = numbers();
        predicate(m, 0, -1, -1, "1n");
        predicate(m, 0, 0, -1, "3n");
        clause(m, 0, "call 1 0 0");
        clause(m, 1);
        m.compile();
        due("d", () -> found(m, 0));
    }

    @Says(promise = 0, value = "A goal can answer more than once: a call whose chosen mode can")
    static void aCallOfWhatRepeatsRepeats() {
        due("m", () -> foundOf(0, 0, "call 2 3"));
        due("n", () -> foundOf(1, 1, "call 2 0"));
        due("d", () -> foundOf(0, 0, "call 4 3 4"));
        // A denied call is none.
        due("s", () -> foundOf(1, 1, "deny 2 0"));
    }

    @Says(promise = 0, value = "for a mode with a switch, its first goal does not count as one that can fail")
    static void theFirstGoalOfASwitchDoesNotCount() {
        due("d", () -> foundOf(1, 1, "build 0 0", "build 0 1 3", "build 0 2 3 4"));
        due("s", () -> foundOf(1, 1, "build 0 0", "build 0 1 3;build 3 0", "build 0 2 3 4"));
    }

    @Says(promise = 0, value = "unless one of its parts has a value when it is taken")
    static void aPartThatHasAValueCanFail() {
        due("s", () -> foundOf(2, 3, "build 0 0", "build 0 1 1", "build 0 2 3 4"));
        due("s", () -> foundOf(2, 3, "build 0 0", "build 0 1 3", "build 0 2 3 1"));
        due("d", () -> foundOf(2, 3, "build 0 0", "build 0 1 3", "build 0 2 3 4"));
        due("d", () -> foundOf(2, 1, "build 0 0;same 1 0", "build 0 1 1", "build 0 2 3 1"));
    }

    @Says(promise = 0, value = "or is the same variable as a part ahead of it")
    static void aPartThatStandsTwiceCanFail() {
        due("s", () -> foundOf(1, 1, "build 0 0", "build 0 1 3", "build 0 2 3 3"));
        due("d", () -> foundOf(1, 1, "build 0 0", "build 0 1 3", "build 0 2 3 4"));
    }

    @Says(promise = 0, value = "or as x.")
    static void aPartThatIsXCanFail() {
        due("s", () -> foundOf(1, 1, "build 0 0", "build 0 1 0", "build 0 2 3 4"));
        due("s", () -> foundOf(1, 1, "build 0 0", "build 0 1 3", "build 0 2 3 0"));
    }

    @Says(promise = 0, value = "A mode with a switch can fail if a constructor of the type has no clause")
    static void aSwitchThatLacksAConstructorCanFail() {
        due("s", () -> foundOf(1, 1, "build 0 0", "build 0 1 3"));
        due("s", () -> foundOf(1, 1, "build 0 2 3 4", "build 0 1 3"));
        due("d", () -> foundOf(1, 1, "build 0 2 3 4", "build 0 1 3", "build 0 0"));
        // The constructors of other types do not count.
        ModedMill m = lists();
        predicate(m, 0, 1, -1, "1n", "2n");
        clause(m, 0, "build 0 0", "build 1 2");
        clause(m, 0, "build 0 1 3", "build 1 2");
        m.compile();
        due('d', () -> m.found(0, 0));
    }

    @Says(promise = 0,
            value = "or one of the clauses can fail; and can answer more than once if one of the clauses can.")
    static void aSwitchIsAsItsClausesAre() {
        due("s", () -> foundOf(1, 1, "build 0 0", "build 0 1 3;call 3 3", "build 0 2 3 4"));
        due("m", () -> foundOf(1, 1, "build 0 0", "build 0 1 3", "build 0 2 3 4;call 2 5"));
        due("n", () -> foundOf(1, 1, "build 0 0", "build 0 1 3;call 3 3", "build 0 2 3 4;call 2 5"));
        due("n", () -> foundOf(1, 1, "build 0 0;call 2 5"));
    }

    @Says(promise = 0, value = "A mode without one can fail if all clauses can, or there are none")
    static void withoutASwitchAllClausesMustFail() {
        due("m", () -> foundOf(1, 1, "same 0 0", "build 3 0"));
        due("n", () -> foundOf(1, 1, "same 0 0", "call 3 0"));
        due("s", () -> foundOf(1, 1, "same 0 0"));
        due("d", () -> foundOf(1, 1, "build 3 0"));
        due("d", () -> foundOf(1, 1, ""));
        due("s", () -> foundOf(1, 1));
    }

    @Says(promise = 0, value = "and can answer more than once if there are two clauses or more, or its clause can.")
    static void withoutASwitchTwoClausesRepeat() {
        due("d", () -> foundOf(1, 1, ""));
        due("m", () -> foundOf(1, 1, "", ""));
        due("m", () -> foundOf(1, 1, "", "", ""));
        due("m", () -> foundOf(1, 1, "call 2 3"));
    }

    @Says(promise = 0, value = "A good mode has the fault 'p' if its promise is broken by what is found")
    static void brokenPromisesAreFaults() {
        String[] found = {"d", "s", "m", "n"};
        String[] faults = {"----", "p-p-", "pp--", "ppp-"};
        for (int i = 0; i < 4; i++) {
            StringBuilder got = new StringBuilder();
            for (char promise : "dsmn".toCharArray()) {
                ModedMill m = bare(3, "1", "1", "2");
                m.open();
                m.addPredicate(-1, -1, -1);
                m.addMode(3, 0, promise);
                clause(m, 3, i == 2 || i == 3 ? "call 1" : "call 2");
                if (i == 1 || i == 3) goal(m, 3, "call 0");
                m.compile();
                String due = found[i];
                due(due, () -> found(m, 3));
                got.append(m.fault(3, 0));
            }
            due(faults[i], got::toString);
        }
        // A mode that is not good breaks no promise.
        ModedMill m = numbers();
        predicate(m, -1, -1, -1, "0d");
        predicate(m, -1, -1, -1, "0d");
        clause(m, 0, "call 1");
        clause(m, 0, "call 1");
        clause(m, 1, "build 3 1 4");
        due(1, m::compile);
        due('-', () -> m.fault(0, 0));
    }

    public static void main(String[] args) throws Exception {
        run(EdgesOfLanguage.class, 0);
    }
}
