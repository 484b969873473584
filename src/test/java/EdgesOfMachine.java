import java.util.Arrays;

/** The edges that the sections ahead of promise 1 name of the machine, the record, breadth and exceptions. */
public final class EdgesOfMachine extends Edge {
    @Says(promise = 0, value = "When a predicate is called, its clauses are tried in their order")
    static void clausesAreTriedInTheirOrder() {
        ModedMill m = numbers();
        predicate(m, 0, -1, -1, "0n");
        clause(m, 0, "build 3 0", "build 4 1 3", "build 0 1 4");
        clause(m, 0, "build 0 0");
        clause(m, 0, "build 3 0", "build 0 1 3");
        m.compile();
        number(m, 2);
        due("3 e 6 1", () -> asked(m, 0, 0, 0, 0, 0));
        due("2 0 1", () -> answers(m, 1));
    }

    @Says(promise = 0,
            value = "if the mode has a switch, only the clause with the constructor of the input, if there is one")
    static void aSwitchTriesOneClause() {
        ModedMill m = pairs();
        predicate(m, 0, -1, -1, "1n");
        predicate(m, 0, -1, -1, "1n");
        clause(m, 0, "build 0 1 3", "same 3 3", "same 3 3");
        clause(m, 0, "build 0 0");
        clause(m, 1, "same 0 0", "build 0 0");
        clause(m, 1, "same 0 0", "build 0 1 3");
        m.compile();
        number(m, 1);
        m.term(2, 0, 0);
        due("1 e 1 0", () -> asked(m, 0, 0, 0, 0, 0));
        due("1 e 3 0", () -> asked(m, 0, 0, 1, 0, 0));
        due("0 e 0 0", () -> asked(m, 0, 0, 2, 0, 0));
        due("c1 f1", () -> record(m));
        due("1 e 4 1", () -> asked(m, 1, 0, 0, 0, 0));
        due("0 e 4 1", () -> asked(m, 1, 0, 2, 0, 0));
    }

    @Says(promise = 0, value = "If more than one is to be tried, a choice point is made")
    static void twoClausesMakeAChoicePoint() {
        due("1 e 0 0", () -> asked(bare(1, "0"), 0, 0, 0, 0, 0));
        due("2 e 0 1", () -> asked(bare(1, "0", "0"), 0, 0, 0, 0, 0));
        due("3 e 0 1", () -> asked(bare(1, "0", "0", "0"), 0, 0, 0, 0, 0));
        due("0 e 0 0", () -> asked(bare(1), 0, 0, 0, 0, 0));
    }

    @Says(promise = 0, value = "which is there until the last one is tried")
    static void theLastClauseLeavesNoChoicePoint() {
        ModedMill m = bare(3, "01-2", "1", "1", "2");
        due("0 e 3 1", () -> asked(m, 0, 0, 0, 0, 0));
        due("c1 c102 x102 c202 x202 r102 x102 c202 x202", () -> record(m));
    }

    @Says(promise = 0, value = "each time a goal is begun is a step")
    static void eachGoalThatIsBegunIsAStep() {
        // 1 answers twice: the second call of it is begun for each answer of the first one.
        ModedMill m = bare(2, "011", "1", "1");
        due("4 e 3 3", () -> asked(m, 0, 0, 0, 0, 0));
        due("c1 c102 x102 c102 x102 x1 r102 x102 x1 r102 x102 c102 x102 x1 r102 x102 x1", () -> record(m));
        // A goal that fails is a step; those behind it are not begun.
        ModedMill n = bare(3, "0121", "1");
        due("0 e 2 0", () -> asked(n, 0, 0, 0, 0, 0));
    }

    @Says(promise = 0, value = "the machine goes back to the latest choice point that is there")
    static void itGoesBackToTheLatestChoicePoint() {
        ModedMill m = numbers();
        predicate(m, 0, 0, -1, "0n");
        predicate(m, 0, -1, -1, "0n");
        clause(m, 0, "call 1 0", "call 1 1");
        clause(m, 1, "build 0 0");
        clause(m, 1, "build 3 0", "build 0 1 3");
        m.compile();
        number(m, 1);
        due("4 e 12 3", () -> asked(m, 0, 0, 0, 0, 0));
        due("0,0 0,1 1,0 1,1", () -> answers(m, 2));
    }

    @Says(promise = 0, value = "what has got values since then has none, and the next clause of this call is tried")
    static void whatGotValuesSinceHasNone() {
        ModedMill m = numbers();
        predicate(m, 0, -1, -1, "0n");
        predicate(m, 0, -1, -1, "0n");
        predicate(m, 0, -1, -1, "0n");
        // The variables of the clause that failed: 3 is z there, and 0 is s(z).
        clause(m, 0, "build 3 0", "build 0 1 3", "same 3 0");
        clause(m, 0, "build 0 0");
        clause(m, 0, "build 4 0", "build 3 1 4", "same 0 3");
        // Those of the caller.
        clause(m, 1, "call 2 3", "same 0 3");
        clause(m, 2, "build 0 0");
        clause(m, 2, "build 3 0", "build 0 1 3");
        m.compile();
        number(m, 1);
        due(2, () -> m.ask(0, 0, 0, 0, 0));
        due("0 1", () -> answers(m, 1));
        due(2, () -> m.ask(1, 0, 0, 0, 0));
        due("0 1", () -> answers(m, 1));
    }

    @Says(promise = 0,
            value = "When all goals of the clause that was tried for the question are done, this is an answer, and "
                    + "then something fails")
    static void anAnswerIsNotTheEnd() {
        ModedMill m = bare(2, "0", "01", "0", "1", "1");
        due("4 e 1 2", () -> asked(m, 0, 0, 0, 0, 0));
        due("c1 x1 r1 c102 x102 x1 r102 x102 x1 r1 x1", () -> record(m));
        due(4, () -> m.multiplicity(3));
    }

    @Says(promise = 0, value = "When there is no choice point any more, the question is over, 'e'")
    static void theQuestionIsOverWithoutChoicePoints() {
        due("0 e 0 0", () -> asked(bare(1), 0, 0, 0, 0, 0));
        due("1 e 0 0", () -> asked(bare(1, "0"), 0, 0, 0, 0, 0));
        due("2 e 2 3", () -> asked(bare(2, "01", "0-1", "1", "1"), 0, 0, 0, 0, 0));
    }

    @Says(promise = 0, value = "or a denied call, which holds if the call has no answer")
    static void aDeniedCallHoldsWithoutAnAnswer() {
        due("1 e 1 0", () -> asked(bare(2, "0-1"), 0, 0, 0, 0, 0));
        due("0 e 1 0", () -> asked(bare(2, "0-1", "1"), 0, 0, 0, 0, 0));
        // The next goal is begun behind it.
        due("0 e 2 0", () -> asked(bare(3, "0-12"), 0, 0, 0, 0, 0));
        due("1 e 3 0", () -> asked(bare(3, "0-12-1", "2"), 0, 0, 0, 0, 0));
        due("1 e 3 0", () -> asked(bare(4, "0-1", "1-2", "2-3"), 0, 0, 0, 0, 0));
        due("0 e 3 1", () -> asked(bare(4, "0-1", "1-2", "2-3", "3", "3"), 0, 0, 0, 0, 0));
    }

    @Says(promise = 0,
            value = "A denied call is a question of its own, with the same steps, which is over at its first answer "
                    + "that has, for the outputs of the mode that is chosen, the values that the variables have")
    static void aDeniedCallIsOverAtItsFirstAnswerAlike() {
        ModedMill m = denying();
        due("0 e 2 1", () -> asked(m, 0, 0, 0, 0, 0));
        due("c1 c102 x102", () -> record(m));
        due("0 e 4 1", () -> asked(m, 0, 0, 1, 0, 0));
        due("c1 c102 x102 r102 x102", () -> record(m));
        due("0 e 7 1", () -> asked(m, 0, 0, 2, 0, 0));
    }

    @Says(promise = 0, value = "an answer with others is none, and something fails")
    static void anAnswerWithOtherValuesIsNone() {
        ModedMill m = denying();
        due("1 e 7 1", () -> asked(m, 0, 0, 3, 0, 0));
        due("c1 c102 x102 r102 x102 r102 x102 x1", () -> record(m));
    }

    @Says(promise = 0, value = "Then its choice points are gone")
    static void theChoicePointsOfADeniedCallAreGone() {
        // 0 calls 1, and denies it: back goes it to the call each time, and never into the denied one.
        ModedMill m = bare(2, "01-1", "1", "1");
        due("0 e 3 3", () -> asked(m, 0, 0, 0, 0, 0));
        due("c1 c102 x102 c102 x102 r102 x102 c102 x102", () -> record(m));
        // Those of a call within it are gone, too.
        ModedMill n = bare(3, "0-1", "0", "12", "2", "2");
        due("1 e 2 2", () -> asked(n, 0, 0, 0, 0, 0));
        due("c1 c102 c203 x203 x102 r1 x1", () -> record(n));
    }

    @Says(promise = 0,
            value = "The question itself is 1 deep; a call, denied or not, is 1 deeper than the clause whose goal "
                    + "it is")
    static void callsAreOneDeeper() {
        ModedMill m = bare(4, "01", "1-2", "23", "3");
        due("0 e 3 0", () -> asked(m, 0, 0, 0, 0, 0));
        due("c1 c102 c203 c304 x304 x203", () -> record(m));
        due(4, m::deepest);
        due("1 e 0 0", () -> asked(m, 3, 0, 0, 0, 0));
        due(1, m::deepest);
    }

    @Says(promise = 0, value = "If a call would be more than 30 deep, whose goal is a step nevertheless")
    static void callsGoThirtyDeep() {
        ModedMill m = counting();
        due(30, () -> number(m, 30));
        due("1 e 59 0", () -> asked(m, 0, 0, 29, 0, 0));
        due(30, m::deepest);
        due("0 l 60 0", () -> asked(m, 0, 0, 30, 0, 0));
        due(30, m::deepest);
        due(30, m::recorded);
        due("c30", () -> "" + m.recordAt(29) + m.whereAt(29));
        // A denied call goes no deeper.
        ModedMill denied = bare(1, "0-0");
        due("0 l 30 0", () -> asked(denied, 0, 0, 0, 0, 0));
        due(30, denied::deepest);
        // What was answered ahead of it stays.
        due("30 l 30 30", () -> asked(bare(1, "0", "00"), 0, 0, 0, 0, 0));
        // Within a denied call, the question itself is over, too.
        due("0 l 30 1", () -> asked(bare(2, "0-1", "0", "11"), 0, 0, 0, 0, 0));
    }

    @Says(promise = 0, value = "if a goal is to be begun when 300 steps were made")
    static void threeHundredStepsAreMade() {
        // 1 takes 5 steps, 2 takes 30, 3 takes 155: for 4 that makes 300, and 301 with one clause more.
        String[] texts = {"0", "100000", "211111", "322222", "432222", "411100", "40"};
        due("2 e 300 1", () -> asked(bare(5, Arrays.copyOf(texts, 6)), 4, 0, 0, 0, 0));
        due("2 l 300 1", () -> asked(bare(5, texts), 4, 0, 0, 0, 0));
        // Those of denied calls count: 156 and 4 times 31 are 280.
        String[] denied = {"0", "100000", "211111", "322222", "4-3", "4-2", "4-2", "4-2", "4-2", "411100", "40"};
        due("1 e 300 1", () -> asked(bare(5, Arrays.copyOf(denied, 10)), 4, 0, 0, 0, 0));
        due("1 l 300 1", () -> asked(bare(5, denied), 4, 0, 0, 0, 0));
        // The goal that is not begun stands in a denied call.
        String[] within = {"0", "100000", "211111", "322222", "4-3", "4-2", "4-2", "4-2", "4-2", "41110", "4-1"};
        due("1 l 300 1", () -> asked(bare(5, within), 4, 0, 0, 0, 0));
    }

    @Says(promise = 0, value = "or if a 51st answer is found, the question is over, too, 'l'")
    static void fiftyAnswersAreFound() {
        due("50 e 47 48", () -> asked(bare(3, with(FIFTY, "2")), 0, 0, 0, 0, 0));
        due("50 l 47 48", () -> asked(bare(3, with(FIFTY, "0")), 0, 0, 0, 0, 0));
        due("50 l 47 48", () -> asked(bare(3, with(FIFTY, "0", "02")), 0, 0, 0, 0, 0));
        // What fails behind the 50th answer leaves the question as it is.
        due("50 e 48 48", () -> asked(bare(3, with(FIFTY, "02")), 0, 0, 0, 0, 0));
    }

    @Says(promise = 0, value = "a 51st answer is none, though what is done for it is on record")
    static void the51stAnswerIsNone() {
        ModedMill m = numbers();
        predicate(m, 0, -1, -1, "0n");
        predicate(m, 0, -1, -1, "0n");
        // 7 times 7 answers and one make 50; the 51st one makes a term of its own.
        clause(m, 0, "call 1 3", "call 1 4", "same 0 4");
        clause(m, 0, "build 0 0");
        clause(m, 0, "build 3 0", "build 4 1 3", "build 0 1 4");
        for (int i = 0; i < 7; i++) clause(m, 1, "build 0 0");
        m.compile();
        due(50, () -> m.ask(0, 0, 0, 0, 0));
        due('l', m::ending);
        due(50, () -> m.multiplicity(49));
        due(IO, () -> m.multiplicity(50));
        due(IO, () -> m.answerAt(50, 0));
        // 1, and for each answer of the first call 1, 1, 7 and 7; then 1, and 3 for the 51st answer.
        due(1 + 7 * 16 + 1 + 3, m::steps);
        due(3, m::terms);
        due(80, m::recorded);
    }

    @Says(promise = 0, value = "this is put on record, as far as there are not 80 yet")
    static void eightyThingsAreOnRecord() {
        // 39 calls behind the question; then 40.
        ModedMill exact = bare(5, "033334", "122222", "2", "312", "41");
        due("1 e 39 0", () -> asked(exact, 0, 0, 0, 0, 0));
        due(80, exact::recorded);
        due("x1", () -> "" + exact.recordAt(79) + exact.whereAt(79));
        due(IO, () -> exact.recordAt(80));
        ModedMill more = bare(5, "033334", "122222", "2", "312", "412");
        due("1 e 40 0", () -> asked(more, 0, 0, 0, 0, 0));
        due(80, more::recorded);
        due("x203", () -> "" + more.recordAt(79) + more.whereAt(79));
        due(IO, () -> more.whereAt(80));
        // 38 calls that are left, and one that has no clause.
        ModedMill less = bare(5, "033114", "122222", "2", "311");
        due("0 e 39 0", () -> asked(less, 0, 0, 0, 0, 0));
        due(79, less::recorded);
        due("f402", () -> "" + less.recordAt(78) + less.whereAt(78));
        due(IO, () -> less.recordAt(79));
    }

    @Says(promise = 0, value = "'c' when a predicate is called, the question itself included")
    static void callsAreOnRecord() {
        due("c1 x1", () -> recordOf(bare(1, "0")));
        due("c1 c102 x102 x1", () -> recordOf(bare(2, "01", "1")));
        due("c1 c102 x102", () -> recordOf(bare(2, "0-1", "1")));
        due("c1 f1", () -> recordOf(bare(1)));
    }

    static String recordOf(ModedMill m) {
        m.ask(0, 0, 0, 0, 0);
        return record(m);
    }

    @Says(promise = 0, value = "'x' when a clause that was tried for a call is done, the question itself included")
    static void whatIsDoneIsOnRecord() {
        due("c1 x1 r1 x1", () -> recordOf(bare(1, "0", "0")));
        due("c1 c102 x102 c202 f202", () -> recordOf(bare(3, "012", "1")));
        // A denied call is left at its answer, also where this has other values.
        due("c1 c102 x102 r1 x1", () -> recordOf(bare(2, "0-1", "0", "1")));
        ModedMill m = denying();
        m.ask(0, 0, 1, 0, 0);
        due("x102", () -> "" + m.recordAt(2) + m.whereAt(2));
    }

    @Says(promise = 0, value = "'r' when another clause of a call is tried")
    static void anotherTryIsOnRecord() {
        due("c1 c102 f102 r1 x1 r1 c102 f102", () -> recordOf(bare(2, "01", "0", "01")));
        due("c1 c102 x102 x1 r102 x102 x1", () -> recordOf(bare(2, "01", "1", "1")));
        // The clause of a switch is no other one.
        ModedMill m = counting();
        number(m, 1);
        m.ask(0, 0, 1, 0, 0);
        due("c1 c2 x2 x1", () -> record(m));
    }

    @Says(promise = 0, value = "'f' when a predicate is called and no clause is to be tried")
    static void aCallWithoutAClauseIsOnRecord() {
        due("c1 f1", () -> recordOf(bare(1)));
        due("c1 c102 f102 x1", () -> recordOf(bare(2, "0-1")));
        // Where clauses were tried and failed, there is none.
        due("c1 c102 c203 f203 r102 c203 f203", () -> recordOf(bare(3, "01", "12", "12")));
        ModedMill m = pairs();
        predicate(m, 0, -1, -1, "1n");
        predicate(m, 0, -1, -1, "1n");
        clause(m, 0, "build 0 0");
        clause(m, 1, "same 0 0", "build 0 0");
        m.compile();
        number(m, 1);
        m.ask(0, 0, 1, 0, 0);
        due("c1 f1", () -> record(m));
        m.ask(1, 0, 1, 0, 0);
        due("c101", () -> record(m));
    }

    @Says(promise = 0, value = "Each has the predicate, and how deep the call is")
    static void theRecordTellsPredicateAndDepth() {
        ModedMill m = bare(5, "43", "32", "3", "21-0", "1");
        m.ask(4, 0, 0, 0, 0);
        due("c401 c302 c203 c104 x104 c4 f4 x203 x302 x401 r302 x302 x401", () -> record(m));
    }

    /** How many answers predicate 0 has by breadth, in its mode 0. */
    static Object breadth(ModedMill m, int first, int second, int third) {
        m.ask(0, 0, first, second, third);
        return told(m::answersByBreadth);
    }

    static Object breadth(ModedMill m) {
        return breadth(m, 0, 0, 0);
    }

    @Says(promise = 0, value = "at first one that has the question alone as a call, with its inputs")
    static void breadthBeginsWithTheInputs() {
        ModedMill m = numbers();
        predicate(m, 0, 0, -1, "3n");
        clause(m, 0, "build 0 0", "build 1 1 0");
        m.compile();
        number(m, 2);
        due(1, () -> breadth(m, 0, 1, 0));
        due(0, () -> breadth(m, 0, 2, 0));
        due(0, () -> breadth(m, 1, 1, 0));
        due(0, () -> breadth(m, 0, 0, 0));
    }

    @Says(promise = 0, value = "and with unknowns, each another one, for its outputs")
    static void breadthHasAnUnknownForEachOutput() {
        ModedMill m = numbers();
        predicate(m, 0, 0, 0, "2n");
        clause(m, 0, "build 0 0", "build 2 1 0", "same 1 1");
        m.compile();
        number(m, 2);
        due(1, () -> breadth(m, 0, 2, 0));
    }

    @Says(promise = 0,
            value = "its first goal that is no denied call with an unknown anywhere in one of its arguments is "
                    + "resolved")
    static void breadthLetsDeniedCallsWait() {
        ModedMill m = numbers();
        predicate(m, 0, -1, -1, "0n");
        predicate(m, 0, -1, -1, "1n");
        predicate(m, 0, 0, -1, "3n");
        predicate(m, 0, -1, -1, "1n");
        clause(m, 1, "build 0 0");
        clause(m, 2, "build 0 0", "build 1 0");
        clause(m, 3, "build 0 1 3", "build 3 0");
        // Each of these answers; one that asked the denied call at once would not.
        clause(m, 0, "deny 1 0", "build 0 1 3", "build 3 0");
        clause(m, 0, "build 0 0", "deny 2 0 3", "build 3 1 0");
        clause(m, 0, "build 0 0", "deny 2 3 0", "build 3 1 0");
        clause(m, 0, "deny 3 0", "build 0 1 3", "build 3 1 4", "build 4 0");
        clause(m, 0, "deny 1 0", "deny 3 0", "build 0 1 3", "build 3 1 4", "build 4 0");
        // These do not: what they deny waits, and has an answer then.
        clause(m, 0, "deny 1 0", "build 0 0");
        clause(m, 0, "deny 1 0", "deny 3 0", "build 0 0");
        clause(m, 0, "deny 3 0", "deny 1 0", "build 0 0");
        clause(m, 0, "deny 3 0", "deny 1 0", "deny 3 0", "build 0 0");
        due(0, m::compile);
        due(5, () -> m.ask(0, 0, 0, 0, 0));
        due(5, m::answersByBreadth);
    }

    @Says(promise = 0, value = "with an unknown anywhere in one of its arguments")
    static void breadthKnowsTheUnknownsOfEachList() {
        // 3 is a term without unknowns in one list, and has one in the list behind it, where a denied call waits.
        ModedMill m = numbers();
        predicate(m, 0, -1, -1, "0n");
        predicate(m, 0, 0, -1, "3n");
        predicate(m, -1, -1, -1, "0n");
        predicate(m, 0, 0, -1, "3n");
        predicate(m, 0, -1, -1, "0n");
        clause(m, 0, "build 3 1 0", "call 3 0 3", "deny 1 3 4", "call 4 0", "build 4 0");
        clause(m, 1, "build 0 1 2", "build 2 1 3");
        clause(m, 2);
        clause(m, 3, "build 0 0");
        clause(m, 3, "call 2", "deny 1 1 1");
        clause(m, 4, "build 0 0");
        due(0, m::compile);
        due(2, () -> m.ask(0, 0, 0, 0, 0));
        due(2, m::answersByBreadth);
    }

    @Says(promise = 0, value = "with an unknown anywhere in one of its arguments")
    static void breadthLooksAtAllPartsOfAnArgument() {
        // The unknown is the second part of a pair: asked at once, what is denied would have an answer.
        ModedMill m = pairs();
        predicate(m, 0, -1, -1, "0n");
        predicate(m, 0, -1, -1, "1n");
        clause(m, 0, "build 3 0", "build 4 2 3 5", "deny 1 4", "build 5 1 3", "build 0 0");
        clause(m, 0, "build 3 0", "build 4 2 5 3", "deny 1 4", "build 5 1 3", "build 0 0");
        clause(m, 1, "build 0 2 3 4", "build 3 0", "build 4 0");
        due(0, m::compile);
        due(2, () -> breadth(m));
    }

    @Says(promise = 0, value = "with an unknown anywhere in one of its arguments")
    static void breadthLooksAtArgumentsAlone() {
        // 0 is an unknown, but no argument of what is denied, which has an answer ahead of the call without an end.
        ModedMill m = numbers();
        predicate(m, 0, -1, -1, "0n");
        predicate(m, 0, -1, -1, "1n");
        predicate(m, -1, -1, -1, "0n");
        clause(m, 0, "build 3 0", "deny 1 3", "call 2", "build 0 0");
        clause(m, 1);
        clause(m, 2, "call 2");
        due(0, m::compile);
        due(0, () -> breadth(m));
    }

    @Says(promise = 0, value = "without regard to modes and orders")
    static void breadthKnowsNoOrders() {
        // The machine calls 1, which has no end, at first; by breadth 3 would contain itself at first.
        ModedMill m = numbers();
        predicate(m, -1, -1, -1, "0n");
        predicate(m, -1, -1, -1, "0n");
        clause(m, 0, "build 3 1 4", "same 3 4", "call 1", "build 4 0");
        clause(m, 1, "call 1");
        m.compile();
        due("2:0 3 0 1", () -> order(m, 0, 0));
        due("0 l 30 0", () -> asked(m, 0, 0, 0, 0, 0));
        due(0, m::answersByBreadth);
        // The machine takes the last goal first, and ends; by breadth the call goes on without an end.
        ModedMill n = append();
        n.term(2, 0, 0);
        n.compile();
        due("1 e 3 1", () -> asked(n, 0, 1, 0, 0, 0));
        due(UN, n::answersByBreadth);
    }

    @Says(promise = 0, value = "a build or a same makes both sides equal")
    static void breadthMakesSidesEqual() {
        ModedMill m = pairs();
        predicate(m, 0, 0, -1, "3n");
        clause(m, 0, "same 0 1");
        clause(m, 0, "build 0 2 3 4", "same 3 4", "same 5 1");
        clause(m, 0, "build 0 2 3 4", "build 1 2 4 3", "build 6 1 3", "build 6 1 4");
        m.compile();
        int one = number(m, 1);
        int pair = m.term(2, 0, one);
        int twin = m.term(2, one, one);
        int back = m.term(2, one, 0);
        due(1, () -> breadth(m, pair, pair, 0));
        due(3, () -> breadth(m, twin, twin, 0));
        due(1, () -> breadth(m, twin, pair, 0));
        due(0, () -> breadth(m, pair, back, 0));
        due(0, () -> breadth(m, 0, pair, 0));
    }

    @Says(promise = 0, value = "a build or a same makes both sides equal")
    static void whatCannotBeMadeEqualLeavesNothingBehind() {
        // Of the first clause of 1 one pair of parts is unlike, and the other one is not looked at any more.
        ModedMill m = pairs();
        predicate(m, -1, -1, -1, "0n");
        predicate(m, 0, 0, -1, "3n");
        clause(m, 0, "build 3 0", "build 4 1 3", "call 1 3 4");
        clause(m, 1, "build 3 2 0 0", "build 3 2 1 1");
        clause(m, 1, "same 0 0", "same 0 0");
        due(0, m::compile);
        due(1, () -> breadth(m));
    }

    @Says(promise = 0, value = "giving unknowns the least that is needed for it")
    static void breadthGivesTheLeast() {
        ModedMill m = numbers();
        predicate(m, 0, -1, -1, "0n");
        predicate(m, 0, -1, -1, "0n");
        clause(m, 0, "build 0 1 3", "call 1 3");
        clause(m, 1, "build 0 0");
        clause(m, 1, "build 3 0", "build 0 1 3");
        m.compile();
        due(2, () -> breadth(m));
    }

    @Says(promise = 0, value = "and nothing contains itself")
    static void nothingContainsItselfByBreadth() {
        // 1 has no end: what is not left out ahead of it cannot be answered.
        String[][] goals = {{"build 0 1 0"}, {"build 0 1 1", "build 1 1 0"}, {"build 0 1 1", "same 0 1"},
            {"same 1 0", "build 1 1 0"}, {"build 0 1 1", "build 1 1 2", "same 2 0"}};
        for (int i = 0; i < goals.length; i++) {
            ModedMill m = numbers();
            predicate(m, 0, i > 0 ? 0 : -1, i > 3 ? 0 : -1, "0n");
            predicate(m, -1, -1, -1, "0n");
            int c = clause(m, 0, goals[i]);
            goal(m, c, "call 1");
            goal(m, c, "build 0 0");
            clause(m, 1, "call 1");
            m.compile();
            due(0, () -> breadth(m));
        }
        // Also where a denied call waits for what would contain itself.
        ModedMill n = numbers();
        predicate(n, 0, 0, -1, "0n");
        predicate(n, -1, -1, -1, "0n");
        predicate(n, 0, -1, -1, "1n");
        clause(n, 0, "deny 2 0", "build 0 1 1", "build 1 1 0", "call 1", "build 0 0");
        clause(n, 1, "call 1");
        n.compile();
        due(0, () -> breadth(n));
        // What only stands in another term is no hindrance.
        ModedMill m = numbers();
        predicate(m, 0, 0, -1, "0n");
        clause(m, 0, "build 0 1 1", "build 1 1 3", "build 3 0");
        m.compile();
        due(1, () -> breadth(m));
    }

    @Says(promise = 0, value = "the list without it goes to the end of the row")
    static void listsGoToTheEndOfTheRow() {
        // The first clause of 1 has no end: its second one is looked at all the same.
        due(0, () -> breadth(bare(2, "0-1", "11", "1")));
        due(0, () -> breadth(bare(3, "0-1", "11", "12", "2")));
        // Builds and what denied calls leave go there, too.
        due(0, () -> breadth(bare(3, "0-1", "1-211", "1")));
        ModedMill m = numbers();
        predicate(m, -1, -1, -1, "0n");
        predicate(m, 0, -1, -1, "1n");
        clause(m, 0, "build 3 0", "deny 1 3");
        clause(m, 1, "build 3 1 0", "call 1 3");
        clause(m, 1);
        m.compile();
        due(0, () -> breadth(m));
    }

    @Says(promise = 0, value = "For a call, there is for each clause, in their order, the list")
    static void clausesAreInTheirOrderByBreadth() {
        // 2 answers twice. 4 lists for the first clause, up to the first answer of 1, and 146 for the others.
        String[] texts = {"0-1", "022222", "022222", "0222", "02", "0", "0", "1", "12", "12", "2", "2"};
        due(76, () -> breadth(bare(3, texts)));
        // With the answer of 1 behind a clause that takes a list more, it is 151.
        String[] more = {"0-1", "022222", "022222", "0222", "02", "0", "0", "12", "1", "12", "2", "2"};
        due(UN, () -> breadth(bare(3, more)));
    }

    @Says(promise = 0, value = "in which its goals, in the order in which they were added")
    static void goalsAreInTheOrderOfAddingByBreadth() {
        // 1 has no clause, and 2 has no end.
        due(0, () -> breadth(bare(3, "012", "22")));
        due(UN, () -> breadth(bare(3, "021", "22")));
        due(0, () -> breadth(bare(3, "01222", "22")));
    }

    @Says(promise = 0, value = "with its arguments made equal to those of the call")
    static void argumentsAreThoseOfTheCallByBreadth() {
        ModedMill m = append();
        int nil = m.term(2, 0, 0);
        int one = m.term(3, m.term(0, 0, 0), nil);
        predicate(m, 1, 1, -1, "3n");
        clause(m, 1, "call 0 1 1 0");
        clause(m, 1, "call 0 1 3 0", "call 0 3 1 0");
        m.compile();
        int two = m.term(3, m.partOf(one, 0), one);
        m.ask(1, 0, two, one, 0);
        due(2, m::answersByBreadth);
        m.ask(1, 0, one, two, 0);
        due(0, m::answersByBreadth);
    }

    @Says(promise = 0, value = "and with all other variables as new unknowns")
    static void otherVariablesAreNewByBreadth() {
        ModedMill m = numbers();
        predicate(m, -1, -1, -1, "0n");
        predicate(m, 0, -1, -1, "1n");
        clause(m, 0, "build 3 0", "build 4 1 3", "call 1 3", "call 1 4");
        clause(m, 1, "same 3 0");
        m.compile();
        due(1, () -> breadth(m));
    }

    @Says(promise = 0, value = "stand at the beginning of the list, which is without the call then")
    static void goalsStandAtTheBeginningByBreadth() {
        // 0 calls 1 and 2; 1 calls 3, which has no clause, and 2 has no end.
        due(0, () -> breadth(bare(4, "012", "13", "22")));
        due(1, () -> breadth(bare(2, "01", "1")));
        // The goals of 1, which has no end, stand ahead of 2, which has no clause.
        due(UN, () -> breadth(bare(3, "012", "11")));
    }

    @Says(promise = 0, value = "A denied call is asked by breadth in the same way, up to its first answer")
    static void deniedCallsAreAskedUpToTheirFirstAnswer() {
        // 1 has answers without an end.
        due(0, () -> breadth(bare(2, "0-1", "1", "111")));
        due(1, () -> breadth(bare(3, "0-1", "1-2", "2", "222")));
        due(UN, () -> breadth(bare(2, "01", "1", "111")));
    }

    @Says(promise = 0, value = "the list without it goes to the end of the row if there is none")
    static void deniedCallsHoldWithoutAnAnswerByBreadth() {
        due(1, () -> breadth(bare(2, "0-1")));
        due(0, () -> breadth(bare(2, "0-1", "1")));
        due(2, () -> breadth(bare(4, "0-12", "13", "2", "2")));
        due(0, () -> breadth(bare(4, "0-12", "13")));
    }

    @Says(promise = 0, value = "A list without goals is an answer")
    static void emptyListsAreAnswers() {
        due(0, () -> breadth(bare(1)));
        due(1, () -> breadth(bare(1, "0")));
        due(3, () -> breadth(bare(1, "0", "0", "0")));
        due(5, () -> breadth(bare(2, "0", "011", "1", "1")));
    }

    @Says(promise = 0, value = "It is over when the row is empty")
    static void breadthIsOverWithAnEmptyRow() {
        // An answer is not the end, nor is a list that fails.
        due(2, () -> breadth(bare(3, "02", "0", "02", "01", "1")));
        due(0, () -> breadth(bare(2, "01", "01", "01")));
    }

    /** 63, 63, 15, 7 and 1 lists for the clauses of 0, whose predicate 1 answers twice, and one for the question. */
    private static final String[] LISTS = {"1", "1", "011111", "011111", "0111", "011", "0"};

    @Says(promise = 0, value = "if more than 150 lists would be taken off in all")
    static void oneHundredFiftyListsAreTakenOff() {
        due(77, () -> breadth(bare(3, LISTS)));
        due(UN, () -> breadth(bare(3, with(LISTS, "0"))));
        due(UN, () -> breadth(bare(3, with(LISTS, "02"))));
    }

    @Says(promise = 0, value = "those of denied calls included, it cannot be answered by breadth")
    static void theListsOfDeniedCallsCount() {
        // 2 has no answer, after 32 lists; with the question, what denies it and what is left then they are 35.
        String[] texts = {"1", "1", "0-2", "211113", "011111", "01111", "0111", "01", "01"};
        due(1 + 32 + 16 + 8 + 2 + 2, () -> breadth(bare(4, texts)));
        due(UN, () -> breadth(bare(4, with(texts, "0"))));
        due(UN, () -> breadth(bare(4, with(texts, "03"))));
    }

    @Says(promise = 0, value = "A method that throws an exception changes nothing")
    static void whatIsRefusedWhileBuildingChangesNothing() {
        ModedMill m = lists();
        predicate(m, 0, 1, -1, "1n");
        m.addClause(0);
        due(IO, () -> m.addConstructor(0, 2, -1));
        due(IA, () -> m.addConstructor(0, -1, 0));
        due(IO, () -> m.addPredicate(0, 2, -1));
        due(IA, () -> m.addPredicate(-1, 0, -1));
        due(IO, () -> m.addMode(1, 0, 'n'));
        due(IA, () -> m.addMode(0, 4, 'n'));
        due(IA, () -> m.addMode(0, 2, 'x'));
        due(IO, () -> m.addClause(1));
        due(IO, () -> m.term(1, 0, 0));
        due(IA, () -> m.term(0, 1, 0));
        due(IS, m::open);
        // No goal is there, and the variables 3 and 4 have no types.
        due(IO, () -> goal(m, 0, "build 3 1 4 8"));
        due(IA, () -> goal(m, 0, "build 3 3 4 0"));
        due(IA, () -> goal(m, 0, "build 3 1 4 1"));
        due(IA, () -> goal(m, 0, "build 3 1 1"));
        due(IA, () -> goal(m, 0, "same 3 4"));
        due(IA, () -> goal(m, 0, "same 0 1"));
        due(IO, () -> goal(m, 0, "same 3 8"));
        due(IA, () -> goal(m, 0, "call 0 3 0"));
        due(IA, () -> goal(m, 0, "call 0 3 4 1"));
        due(IA, () -> goal(m, 0, "deny 0 3 3"));
        due(0, () -> goal(m, 0, "build 3 2"));
        due(IA, () -> goal(m, 0, "build 4 3 3 3"));
        due(1, () -> goal(m, 0, "build 1 3 4 3"));
        due(2, () -> goal(m, 0, "same 4 0"));
        due(2, () -> predicateOfNothing(m));
        due(4, () -> m.addConstructor(1, -1, -1));
        due(1, () -> m.addMode(0, 2, 'n'));
        due(1, () -> m.addClause(0));
        due(0, () -> m.term(2, 0, 0));
    }

    private static int predicateOfNothing(ModedMill m) {
        m.addPredicate(-1, -1, -1);
        return m.addPredicate(-1, -1, -1);
    }

    @Says(promise = 0, value = "A method that throws an exception changes nothing")
    static void whatIsFullStaysAsItIs() {
        ModedMill m = lists();
        m.addType();
        for (int i = 4; i < 10; i++) m.addConstructor(1, -1, -1);
        for (int p = 0; p < 5; p++) predicate(m, 0, -1, -1, "1n", "1n");
        for (int c = 0; c < 12; c++) clause(m, 0);
        for (int g = 0; g < 5; g++) goal(m, 0, "same 0 0");
        due(IS, m::addType);
        due(IS, () -> m.addConstructor(0, -1, -1));
        due(IS, () -> m.addPredicate(-1, -1, -1));
        due(IS, () -> m.addMode(0, 0, 'd'));
        due(IS, () -> m.addClause(0));
        due(IS, () -> goal(m, 0, "build 3 2"));
        due(IS, () -> goal(m, 0, "same 3 0"));
        due(IS, () -> goal(m, 0, "call 0 3"));
        // 3 has no type yet.
        due(IA, () -> goal(m, 0, "same 3 3"));
        due(IO, () -> m.addConstructor(0, 3, -1));
        due(IO, () -> m.term(10, 0, 0));
        due(IO, () -> m.addClause(5));
        due(IO, () -> goal(m, 12, "same 0 0"));
        due(0, m::compile);
        due(IO, () -> m.fault(0, 2));
        due("0 1 2 3 4", () -> order(m, 0, 0));
        // The same calls when all is compiled.
        due(IS, m::addType);
        due(IS, () -> m.addConstructor(0, -1, -1));
        due(IS, () -> m.addPredicate(-1, -1, -1));
        due(IS, () -> m.addMode(0, 0, 'd'));
        due(IS, () -> m.addClause(0));
        due(IS, () -> goal(m, 1, "build 3 2"));
        due(IS, () -> goal(m, 1, "same 3 0"));
        due(IS, () -> goal(m, 1, "call 0 3"));
        due(IS, m::compile);
        due("", () -> order(m, 1, 0));
        due(0, m::open);
        due(IA, () -> goal(m, 1, "same 3 3"));
        due(0, () -> goal(m, 1, "same 0 0"));
    }

    @Says(promise = 0, value = "A method that throws an exception changes nothing")
    static void aRefusedQuestionChangesNothing() {
        ModedMill m = numbers();
        predicate(m, 0, 0, -1, "1n", "0n");
        predicate(m, 0, 0, -1, "1n");
        clause(m, 0, "build 3 1 0", "build 1 1 3");
        clause(m, 1, "build 3 1 0", "build 4 1 3", "build 1 1 4");
        m.compile();
        number(m, 195);
        due(1, () -> m.ask(0, 0, 195, 0, 0));
        due(198, m::terms);
        String before = look(m, 2);
        due(IO, () -> m.ask(2, 0, 0, 0, 0));
        due(IO, () -> m.ask(0, 0, 198, 0, 0));
        due(IA, () -> m.ask(0, 0, 0, 1, 0));
        // Mode 1 of 0 is not good; 1 would need 201 numbers.
        due(UN, () -> m.ask(0, 1, 0, 0, 0));
        due(UN, () -> m.ask(1, 0, 197, 0, 0));
        due(198, m::terms);
        due(before, () -> look(m, 2));
        due(2.0, m::meanSteps);
        due(197, () -> m.answerAt(0, 1));
        due(1, () -> m.ask(0, 0, 197, 0, 0));
        due("197,199", () -> answers(m, 2));
        due(198, () -> m.partOf(199, 0));
        for (int term = 1; term < 200; term++) {
            int old = term;
            due(old, () -> m.term(1, old - 1, 0));
        }
        due(2, m::open);
    }

    @Says(promise = 0, value = "A method that throws an exception changes nothing")
    static void aRefusedFirstQuestionTakesAllBack() {
        // 3 makes 5 terms, 2 makes 25, 1 makes 125: 0 would make 251 of them, beginning with the very first term.
        ModedMill m = numbers();
        predicate(m, -1, -1, -1, "0n");
        for (int p = 1; p < 4; p++) predicate(m, 0, 0, -1, "1n");
        clause(m, 0, "build 3 0", "call 1 3 4", "call 1 4 5");
        for (int p = 1; p < 3; p++) {
            int next = p + 1;
            clause(m, p, "call " + next + " 0 3", "call " + next + " 3 4", "call " + next + " 4 5",
                    "call " + next + " 5 6", "call " + next + " 6 1");
        }
        clause(m, 3, "build 3 1 0", "build 4 1 3", "build 5 1 4", "build 6 1 5", "build 1 1 6");
        m.compile();
        due(UN, () -> m.ask(0, 0, 0, 0, 0));
        due(0, m::terms);
        due(IO, () -> m.constructorOf(0));
        due(NS, m::ending);
        due(AR, m::meanSteps);
        due(0, () -> m.term(0, 0, 0));
        due(1, () -> m.term(1, 0, 0));
        due(1, () -> m.ask(1, 0, 0, 0, 0));
        due("0,125", () -> answers(m, 2));
        due(126, m::terms);
        due(1, m::open);
    }

    @Says(promise = 0, value = "A method that throws an exception changes nothing")
    static void aRefusedLookChangesNothing() {
        ModedMill m = append();
        m.term(2, 0, 0);
        m.compile();
        m.ask(0, 1, 0, 0, 0);
        String before = look(m, 1);
        due(UN, m::answersByBreadth);
        due(UN, m::answersByBreadth);
        due(IO, () -> m.answerAt(1, 0));
        due(IO, () -> m.answerAt(0, 3));
        due(IO, () -> m.multiplicity(1));
        due(IO, () -> m.recordAt(80));
        due(IO, () -> m.whereAt(-1));
        due(IO, () -> m.fault(1, 0));
        due(IO, () -> m.isGood(0, 2));
        due(NS, () -> m.switchOf(0, 1));
        due(NS, () -> m.goalAt(0, 0, 2));
        due(NS, () -> m.chosenAt(0, 0, 0));
        due(IO, () -> m.constructorOf(9));
        due(NS, () -> m.partOf(0, 0));
        due(IO, () -> m.sizeOf(-1));
        due(before, () -> look(m, 1));
        due(1, m::open);
        due(IS, m::onceShare);
        due(IS, m::open);
        due(AR, m::meanSteps);
        due(0, m::compile);
    }

    @Says(promise = 0, value = "If several conditions of a method apply, the exception that is listed first is thrown")
    static void whatIsListedFirstIsThrownWhileBuilding() {
        ModedMill m = lists();
        predicate(m, 0, 1, -1, "1n", "1n");
        clause(m, 0, "same 0 0", "same 0 0", "same 0 0", "same 0 0", "same 0 0");
        m.compile();
        due(IO, () -> m.addConstructor(2, -1, 0));
        due(IO, () -> m.addConstructor(0, -1, 2));
        due(IO, () -> m.addConstructor(2, 0, 0));
        due(IA, () -> m.addConstructor(0, -1, 0));
        due(IO, () -> m.addPredicate(-1, 2, -1));
        due(IO, () -> m.addPredicate(2, -1, -1));
        due(IA, () -> m.addPredicate(-1, 0, -1));
        due(IO, () -> m.addMode(1, 8, 'x'));
        due(IO, () -> m.addMode(1, 1, 'n'));
        due(IA, () -> m.addMode(0, 4, 'n'));
        due(IA, () -> m.addMode(0, 1, 'x'));
        due(IO, () -> m.addClause(1));
        due(IO, () -> m.addBuild(1, 1, 0, 1, 1));
        due(IO, () -> m.addBuild(0, 1, 4, 1, 1));
        due(IO, () -> m.addBuild(0, 1, 0, 1, 8));
        due(IO, () -> m.addBuild(1, 0, 0, 0, 0));
        due(IA, () -> m.addBuild(0, 1, 0, 0, 0));
        due(IA, () -> m.addBuild(0, 0, 0, 1, 0));
        due(IO, () -> m.addSame(1, 0, 1));
        due(IO, () -> m.addSame(0, 3, 8));
        due(IO, () -> m.addSame(1, 0, 0));
        due(IA, () -> m.addSame(0, 0, 1));
        due(IA, () -> m.addSame(0, 3, 4));
        due(IO, () -> m.addCall(1, 0, 1, 1, 0, false));
        due(IO, () -> m.addCall(0, 1, 1, 1, 0, true));
        due(IO, () -> m.addCall(0, 0, 1, 1, 8, false));
        due(IO, () -> m.addCall(1, 0, 0, 1, 0, false));
        due(IA, () -> m.addCall(0, 0, 1, 1, 0, true));
        due(IA, () -> m.addCall(0, 0, 0, 1, 1, false));
    }

    @Says(promise = 0, value = "If several conditions of a method apply, the exception that is listed first is thrown")
    static void whatIsListedFirstIsThrownOfFullTerms() {
        ModedMill m = lists();
        m.term(2, 0, 0);
        for (int i = 0; i < 199; i++) m.term(i == 0 ? 0 : 1, i == 0 ? 0 : i, 0);
        due(200, m::terms);
        // No such term, and a part that it does not have; no such term, and one of another type.
        due(IO, () -> m.term(1, 200, 1));
        due(IO, () -> m.term(3, 0, 200));
        due(IO, () -> m.term(3, 200, 1));
        due(IO, () -> m.term(4, 0, 0));
        due(IA, () -> m.term(1, 0, 0));
        due(IA, () -> m.term(1, 199, 1));
        due(IA, () -> m.term(0, 0, 1));
        due(IS, () -> m.term(1, 199, 0));
        due(IO, () -> m.partOf(200, 2));
        due(IO, () -> m.partOf(-1, -1));
    }

    @Says(promise = 0, value = "If several conditions of a method apply, the exception that is listed first is thrown")
    static void whatIsListedFirstIsThrownOfModes() {
        ModedMill m = numbers();
        predicate(m, 0, -1, -1, "0n", "1n");
        clause(m, 0, "same 0 0");
        // Not compiled: no such mode, place or finding either.
        due(IO, () -> m.fault(0, 2));
        due(IO, () -> m.isGood(1, 0));
        due(IO, () -> m.found(0, -1));
        due(IO, () -> m.switchOf(-1, 0));
        due(IO, () -> m.goalAt(1, 0, 5));
        due(IO, () -> m.chosenAt(0, 2, 5));
        due(IS, () -> m.found(0, 0));
        due(IS, () -> m.switchOf(0, 0));
        due(IS, () -> m.goalAt(0, 0, 5));
        due(IS, () -> m.chosenAt(0, 0, 5));
        due(IS, m::onceShare);
        m.compile();
        due(IO, () -> m.found(0, 2));
        due(IO, () -> m.switchOf(1, 0));
        due(IO, () -> m.goalAt(0, 2, 5));
        due(IO, () -> m.goalAt(1, 0, 5));
        due(IO, () -> m.chosenAt(0, -1, -1));
        due(NS, () -> m.found(0, 0));
        due(NS, () -> m.switchOf(0, 0));
        due(NS, () -> m.goalAt(0, 0, 5));
        due(NS, () -> m.chosenAt(0, 0, 5));
    }

    @Says(promise = 0, value = "If several conditions of a method apply, the exception that is listed first is thrown")
    static void whatIsListedFirstIsThrownOfQuestions() {
        ModedMill m = lists();
        predicate(m, 0, 1, -1, "3n", "0n");
        m.term(0, 0, 0);
        m.term(2, 0, 0);
        // Not compiled, and the second mode would not be good.
        due(IO, () -> m.ask(1, 0, 9, 9, 9));
        due(IO, () -> m.ask(0, 0, 1, 2, 0));
        due(IO, () -> m.ask(0, 0, 2, 0, 0));
        due(IO, () -> m.ask(0, 0, 0, 2, 1));
        due(IA, () -> m.ask(0, 0, 1, 1, 0));
        due(IA, () -> m.ask(0, 0, 0, 1, 1));
        due(IA, () -> m.ask(0, 1, 1, 0, 0));
        due(IS, () -> m.ask(0, 0, 0, 1, 0));
        due(IS, () -> m.ask(0, 1, 0, 0, 0));
        clause(m, 0);
        m.compile();
        due(IO, () -> m.ask(0, 2, 0, 0, 0));
        due(IO, () -> m.ask(0, 0, -1, 0, 1));
        due(IA, () -> m.ask(0, 1, 0, 0, 7));
        due(UN, () -> m.ask(0, 1, 0, 0, 0));
        // None was asked, and there is no such answer, argument or place.
        due(NS, () -> m.answerAt(-1, -1));
        due(NS, () -> m.multiplicity(0));
        due(NS, () -> m.recordAt(-1));
        due(NS, () -> m.whereAt(80));
        due(1, () -> m.ask(0, 0, 0, 1, 0));
        due(IO, () -> m.answerAt(-1, -1));
        due(IO, () -> m.multiplicity(1));
        due(IO, () -> m.recordAt(-1));
        due(IO, () -> m.whereAt(80));
    }

    public static void main(String[] args) throws Exception {
        run(EdgesOfMachine.class, 0);
    }
}
