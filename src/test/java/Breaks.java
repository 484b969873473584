import java.io.ByteArrayOutputStream;
import java.io.IOException;
import java.io.OutputStream;
import java.io.StringWriter;
import java.lang.reflect.Method;
import java.net.URI;
import java.nio.file.Files;
import java.nio.file.Path;
import java.util.ArrayList;
import java.util.Arrays;
import java.util.HashMap;
import java.util.List;
import java.util.Map;
import java.util.TreeSet;
import java.util.regex.Matcher;
import java.util.regex.Pattern;
import java.util.stream.IntStream;
import javax.tools.FileObject;
import javax.tools.ForwardingJavaFileManager;
import javax.tools.JavaCompiler;
import javax.tools.JavaFileManager;
import javax.tools.JavaFileObject;
import javax.tools.SimpleJavaFileObject;
import javax.tools.ToolProvider;

/**
 * Breaks the program on purpose, one sentence of the document at a time: the test that the Edges classes have for it
 * must fail then. Each of their tests has a break here. A break is told by what stands in the program, just once, and
 * what stands there instead; whoever changes the program writes the breaks anew that it no longer has.
 * Arguments: the path of the program.
 */
public final class Breaks {
    private static final String[] CLASSES = {"EdgesOfLanguage", "EdgesOfMachine", "EdgesOfPromises"};

    /** The tests that must fail, what stands in the program, and what stands there instead. */
    private static final String[][] BREAKS = {
        // ---- terms, predicates, clauses
        {"the512thCallIsAnswered", "asked++;", "asked = asked + 1 & 255;"},
        {"typesAreNumbered aFourthTypeIsRefused", "TYPES = 3;", "TYPES = 4;"},
        {"constructorsAreNumberedOverAllTypes", "return store.newConstructor(type, first, second);",
            "return store.newConstructor(type, first, second) / TYPES;"},
        {"partsAreOfTypesOfTheirOwn", "int type = partType(constructor, index);",
            "int type = partType(constructor, 0);"},
        {"termsAreNumberedAsTheyAreMade", "sizes = new long[TERMS];",
            "sizes = new long[TERMS]; numbered.add(NONE, 0, 0);"},
        {"termsKeepTheirNumbers", "if (isLike) {", "if (isLike && first == second) {"},
        {"partsHaveLowerNumbers theLowestGoalIsTakenAgainAndAgain",
            "for (int number = 0; number < clause.goalCount(); number++) {",
            "for (int number = clause.goalCount() - 1; number >= 0; number--) {"},
        {"thereAreTwoHundredTerms", "TERMS = 200;", "TERMS = 201;"},
        {"whatTheMachineMakesGetsNumbers", "undo(choices.get(choice, TRAIL));",
            "undo(choices.get(choice, TRAIL)); store.forgetFrom(1);"},
        {"predicatesAreNumbered aSixthPredicateIsRefused", "PREDICATES = 5;", "PREDICATES = 6;"},
        {"predicatesHaveUpToThreeArguments", "third == NONE ? 2 : ARGUMENTS;", "2;"},
        {"modesAreNumberedForEachPredicate", "new Mode(owner, owner.modes.size(), inputs, promise);",
            "new Mode(owner, modes.size(), inputs, promise);"},
        {"inputsAreASumOfPowers", "(inputs >> place & 1) == 1;", "(inputs >> ARGUMENTS - 1 - place & 1) == 1;"},
        {"clausesAreNumberedOverAllPredicates", "new Clause(clauses.size(), owner);",
            "new Clause(owner.clauses.size(), owner);"},
        {"clausesAreInTheOrderOfAdding", "owner.clauses.add(clause);", "owner.clauses.add(0, clause);"},
        {"variablesGoToSeven", "VARIABLES = 8;", "VARIABLES = 7;"},
        {"goalsAreNumberedForEachClause aSixthBuildIsRefused aSixthSameIsRefused aSixthCallIsRefused", "GOALS = 5;",
            "GOALS = 6;"},
        {"variablesGetTypesFromTheirFirstGoal",
            "types.set(goal.variableAt(place), 0, pick(place, first, second, third));", ""},
        {"variablesMayBeTheSame", "if (!goal.isBareBehindEnd()",
            "if (goal.count > 1 && goal.variableAt(0) == goal.variableAt(1) || !goal.isBareBehindEnd()"},

        // ---- orders
        {"inputsHaveValuesAtFirst", "int known = mode.inputs;", "int known = mode.predicate.argumentSet();"},
        {"whatIsTakenGivesValues", "known |= goal.variableSet(0);", "known |= 1 << goal.variableAt(0);"},
        {"buildsNeedXOrAllParts", "return isFirstKnown || (goal.variableSet(1) & ~known) == 0;",
            "return isFirstKnown || goal.count == 1 || (goal.variableSet(1) & known) != 0;"},
        {"samesNeedOneValue", "return isFirstKnown || (known >> goal.variableAt(1) & 1) == 1;", "return isFirstKnown;"},
        {"callsTakeTheLowestMode", "for (int number = 0; number < count; number++) {",
            "for (int number = count - 1; number >= 0; number--) {"},
        {"deniedCallsNeedAllValues", "return chosen != null && (goal.variableSet(0) & ~known) == 0;",
            "return chosen != null;"},
        {"aGoalThatIsLeftIsAFault", "if (goal == null) { return false; } clause.takeNext",
            "if (goal == null) { break; } clause.takeNext"},
        {"anArgumentWithoutAValueIsAFault", "return (mode.predicate.argumentSet() & ~known) == 0;", "return true;"},
        {"badModesSpread", "round <= modes.size() && isChanged; round++) { isChanged = spreadFaults();",
            "round <= 0 && isChanged; round++) { isChanged = spreadFaults();"},

        // ---- builds, sames and calls
        {"anotherConstructorFails", "if (store.headOf(term) != goal.subject) { return false; }", ""},
        {"partsGetTheirValues", "agrees(frame, goal.variableAt(part), store.part(term, part - 1))",
            "agrees(frame, goal.variableAt(part), store.part(term, goal.count - 1 - part))"},
        {"aPartWithAnotherValueFails", "store.part(term, part - 1))) { return false; }",
            "store.part(term, part - 1))) { return true; }"},
        {"aPartThatStandsTwiceFails", "if (!agrees(frame, goal.variableAt(part),",
            "if (goal.variableAt(part) != goal.variableAt(part - 1) && !agrees(frame, goal.variableAt(part),"},
        {"aBuildMakesATerm", "int first = goal.count > 1 ? frame.valueOf(goal.variableAt(1)) : 0;",
            "int first = goal.count > 1 ? frame.valueOf(goal.variableAt(goal.count - 1)) : 0;"},
        {"aSameGivesAValueOn", "isFailing = !agrees(frame, isToRight ? y : x, value);",
            "isFailing = !agrees(frame, y, value);"},
        {"aSameOfUnlikeValuesFails", "isFailing = !agrees(frame, isToRight ? y : x, value);",
            "agrees(frame, isToRight ? y : x, value);"},
        {"callsHandOverInputsAlone", "if (chosen.isInput(argument)) {", "if (chosen != null) {"},
        {"anOutputWithAnotherValueFails", "if (isOutput && !agrees(",
            "if (isOutput && caller.valueOf(goal.variableAt(argument)) == NONE && !agrees("},
        {"anOutputThatStandsTwiceFails", "boolean isOutput = !frame.mode.isInput(argument);",
            "boolean isOutput = !frame.mode.isInput(argument)"
                + " && (argument == 0 || goal.variableAt(argument) != goal.variableAt(argument - 1));"},

        // ---- switches
        {"noClauseNoSwitch", "return found; } private boolean spreadFaults",
            "return found == NONE && mode.isInput(0) ? 0 : found; } private boolean spreadFaults"},
        {"switchesLookAtTheFirstGoalInOrder",
            "clause.goalIn(mode.number, 0); if (goal == null || goal.kind != Goal.BUILD",
            "clause.goalNumbered(0); if (goal == null || goal.kind != Goal.BUILD"},
        {"switchesAreOnOneInput", "boolean isOther = found != NONE && found != goal.variableAt(0);",
            "boolean isOther = false;"},
        {"switchesAreOnOneInput", "|| !mode.isInput(goal.variableAt(0))) {", ") {"},
        {"switchesNeedUnlikeConstructors", "if (isOther || (constructors >> goal.subject & 1) == 1) {",
            "if (isOther) {"},

        // ---- what can be
        {"whatIsFoundIsTheLeast", "mode.canFail = false;", "mode.canFail = true;"},
        {"aBuildThatTakesApartCanFail", "case Goal.BUILD: return isFirstKnown; case",
            "case Goal.BUILD: return false; case"},
        {"aSameOfTwoValuesCanFail", "return isFirstKnown && (known >> goal.variableAt(1) & 1) == 1;",
            "return isFirstKnown || (known >> goal.variableAt(1) & 1) == 1;"},
        {"aDeniedCallCanFail", "clashes(goal, chosen, known)); default: return true;",
            "clashes(goal, chosen, known)); default: return chosen != null && chosen.canFail;"},
        {"aCallOfWhatCanFailCanFail", "(chosen.canFail || clashes(goal, chosen, known))",
            "clashes(goal, chosen, known)"},
        {"anOutputThatHasAValueCanFail aPartThatHasAValueCanFail", "int seen = known;",
            "int seen = chosen == null ? 1 << goal.variableAt(0) : 0;"},
        {"anOutputThatStandsTwiceCanFail aPartThatStandsTwiceCanFail", "seen |= 1 << goal.variableAt(place);", ""},
        {"aCallOfWhatRepeatsRepeats", "goal.kind == Goal.CALL && chosen != null && chosen.canRepeat",
            "chosen != null && chosen.canRepeat"},
        {"theFirstGoalOfASwitchDoesNotCount", "boolean isSwitching = place == 0 && mode.switchPlace != NONE;",
            "boolean isSwitching = false;"},
        {"aPartThatIsXCanFail", "isSwitching ? clashes(goal, null, known)",
            "isSwitching ? clashes(goal, null, known & ~(1 << goal.variableAt(0)))"},
        {"aSwitchThatLacksAConstructorCanFail", "return failing > 0 || !isTypeCovered(mode, store);",
            "return failing > 0;"},
        {"aSwitchIsAsItsClausesAre", "return failing > 0 || !isTypeCovered(mode, store);",
            "return failing == mode.predicate.clauseCount() || !isTypeCovered(mode, store);"},
        {"withoutASwitchAllClausesMustFail", "return failing == mode.predicate.clauseCount();", "return failing > 0;"},
        {"withoutASwitchTwoClausesRepeat", "mode.switchPlace == NONE && clauses > 1",
            "mode.switchPlace == NONE && clauses > 2"},
        {"brokenPromisesAreFaults", "canRepeat && (promise == 'd' || promise == 's');", "canRepeat && promise == 'd';"},

        // ---- the machine
        {"clausesAreTriedInTheirOrder", "tryClause(frame, called.clauseAt(next));",
            "tryClause(frame, called.clauseAt(called.clauseCount() - next));"},
        {"aSwitchTriesOneClause", "if (frame.mode.switchPlace == NONE && called.clauseCount() > 1) {",
            "if (called.clauseCount() > 1) {"},
        {"twoClausesMakeAChoicePoint", "if (frame.mode.switchPlace == NONE && called.clauseCount() > 1) {",
            "if (frame.mode.switchPlace == NONE) {"},
        {"theLastClauseLeavesNoChoicePoint", "if (next + 1 >= called.clauseCount()) {",
            "if (next >= called.clauseCount()) {"},
        {"eachGoalThatIsBegunIsAStep", "report.stepCount++;", "report.stepCount += place == 0 ? 1 : 0;"},
        {"itGoesBackToTheLatestChoicePoint", "int choice = choices.count() - 1;", "int choice = 0;"},
        {"whatGotValuesSinceHasNone", "undo(choices.get(choice, TRAIL));", ""},
        {"anAnswerIsNotTheEnd", "report.addAnswer(first, second, third); isFailing = true;",
            "report.addAnswer(first, second, third); finish('e');"},
        {"theQuestionIsOverWithoutChoicePoints", "if (frame == null) { finish('e');",
            "if (frame == null) { finish('l');"},
        {"aDeniedCallHoldsWithoutAnAnswer", "place = over.backTo + 1; return;", "place = over.backTo + 2; return;"},
        {"aDeniedCallHoldsWithoutAnAnswer", "place = over.backTo + 1; return;",
            "place = over.backTo + 1; isFailing = true; return;"},
        {"aDeniedCallIsOverAtItsFirstAnswerAlike anAnswerWithOtherValuesIsNone",
            "if (handsBack(frame, frame.caller)) { choices", "if (denied == frame) { choices"},
        {"theChoicePointsOfADeniedCallAreGone", "choices.cut(frame.choicesBefore);", ""},
        {"callsAreOneDeeper", "depth = from == null ? 1 : from.depth + 1;",
            "depth = from == null ? 0 : from.depth + 1;"},
        {"callsGoThirtyDeep", "DEPTH = 30;", "DEPTH = 31;"},
        {"callsGoThirtyDeep", "DEPTH = 30;", "DEPTH = 29;"},
        {"threeHundredStepsAreMade", "STEPS = 300;", "STEPS = 301;"},
        {"threeHundredStepsAreMade", "STEPS = 300;", "STEPS = 299;"},
        {"fiftyAnswersAreFound", "ANSWERS = 50;", "ANSWERS = 51;"},
        {"the51stAnswerIsNone", "if (report.answerCount() >= ANSWERS) { finish('l'); return; }",
            "if (report.answerCount() >= ANSWERS) { finish('l'); }"},

        // ---- the record
        {"eightyThingsAreOnRecord", "RECORD = 80;", "RECORD = 79;"},
        {"eightyThingsAreOnRecord", "RECORD = 80;", "RECORD = 81;"},
        {"callsAreOnRecord", "report.note('c', called.number, frame.depth);",
            "if (frame.caller != null) { report.note('c', called.number, frame.depth); }"},
        {"whatIsDoneIsOnRecord", "report.note('x', frame.mode.predicate.number, frame.depth);",
            "if (!frame.isDenied) { report.note('x', frame.mode.predicate.number, frame.depth); }"},
        {"anotherTryIsOnRecord", "report.note('r', called.number, frame.depth);", ""},
        {"aCallWithoutAClauseIsOnRecord", "report.note('f', called.number, frame.depth);", ""},
        {"theRecordTellsPredicateAndDepth placesTellPredicateAndDepth", "100 * predicate + depth",
            "10 * predicate + depth"},

        // ---- by breadth
        {"breadthBeginsWithTheInputs", "given != NONE ? given : newUnknown()", "newUnknown()"},
        {"breadthHasAnUnknownForEachOutput", "given != NONE ? given : newUnknown()",
            "given != NONE ? given : nodes.count() > groundCount ? groundCount : newUnknown()"},
        {"breadthLetsDeniedCallsWait",
            "if (goal != null && (goal.kind != Goal.DENIED || isGround(goal, cells.get(cell, BASE)))) {",
            "if (goal != null) {"},
        {"breadthLetsDeniedCallsWait", "if (markOf(node) != GROUND) {", "if (nodes.get(node, HEAD) == NONE) {"},
        {"breadthLetsDeniedCallsWait", "if (latest == NONE) { first = copy; }", "first = copy;"},
        {"breadthKnowsTheUnknownsOfEachList", "restored = list; round++;", "restored = list;"},
        {"breadthLooksAtAllPartsOfAnArgument", "work.set(line, PART, part + 1);", "work.set(line, PART, part + 2);"},
        {"breadthLooksAtArgumentsAlone", "for (int place = 0; place < goal.count; place++) { int node = find",
            "for (int place = 0; place <= goal.count; place++) { int node = find"},
        {"nothingContainsItselfByBreadth", "round++; return scan(find(node));", "return scan(find(node));"},
        {"breadthKnowsNoOrders", "cell = cells.add(clause.number * GOALS + goal, base, cell);",
            "cell = cells.add(clause.number * GOALS + Math.max(0, clause.goalNumberIn(0, goal)), base, cell);"},
        {"breadthMakesSidesEqual", "if (areBuilt && (lowHead != highHead || high < groundCount)) {",
            "if (areBuilt && high < groundCount) {"},
        {"whatCannotBeMadeEqualLeavesNothingBehind", "work.cut(0); work.add(left, right, NONE);",
            "work.add(left, right, NONE);"},
        {"breadthGivesTheLeast", "node = newUnknown();", "node = groundCount > 0 ? 0 : newUnknown();"},
        {"nothingContainsItselfByBreadth", "unify(left, rightSide(goal, base)) && isFinite(left)",
            "unify(left, rightSide(goal, base))"},
        {"listsGoToTheEndOfTheRow", "row.set(line, CLAUSE, 0);",
            "row.set(line, CLAUSE, 0); for (int k = 0; k < 6; k++) { int x = row.get(front, k);"
                + " row.set(front, k, row.get(line, k)); row.set(line, k, x); }"},
        {"clausesAreInTheirOrderByBreadth", "Clause clause = called == null ? null : called.clauseAt(place);",
            "Clause clause = called == null ? null : called.clauseAt(called.clauseCount() - 1 - place);"},
        {"goalsAreInTheOrderOfAddingByBreadth", "for (int goal = clause.goalCount() - 1; goal >= 0; goal--) {",
            "for (int goal = 0; goal < clause.goalCount(); goal++) {"},
        {"argumentsAreThoseOfTheCallByBreadth", "node = nodeOf(call, callBase, variable);", "node = newUnknown();"},
        {"otherVariablesAreNewByBreadth", "node = newUnknown();",
            "node = variables.count() > VARIABLES ? groundCount : newUnknown();"},
        {"goalsStandAtTheBeginningByBreadth",
            "int cell = rest; for (int goal = clause.goalCount() - 1; goal >= 0; goal--) {"
                + " cell = cells.add(clause.number * GOALS + goal, base, cell); } return cell;",
            "int cell = NONE; for (int goal = clause.goalCount() - 1; goal >= 0; goal--) {"
                + " cell = cells.add(clause.number * GOALS + goal, base, cell); } int end = NONE; int first = cell;"
                + " for (int at = rest; at != NONE; at = cells.get(at, NEXT)) {"
                + " int copy = cells.add(cells.get(at, GOAL), cells.get(at, BASE), cell);"
                + " if (end == NONE) { first = copy; } else { cells.set(end, NEXT, copy); } end = copy; }"
                + " return first;"},
        {"deniedCallsAreAskedUpToTheirFirstAnswer", "answers++; } else { endDenied(false); }", "answers++; }"},
        {"deniedCallsHoldWithoutAnAnswerByBreadth", "endDenied(true);", "endDenied(false);"},
        {"emptyListsAreAnswers", "answers++;", "answers = 1;"},
        {"breadthIsOverWithAnEmptyRow", "answers++;", "return 1;"},
        {"oneHundredFiftyListsAreTakenOff", "LISTS = 150;", "LISTS = 151;"},
        {"oneHundredFiftyListsAreTakenOff", "LISTS = 150;", "LISTS = 149;"},
        {"theListsOfDeniedCallsCount", "taken++;", "taken += levels.count() == 0 ? 1 : 0;"},

        // ---- exceptions
        {"whatIsRefusedWhileBuildingChangesNothing whatIsFullStaysAsItIs", "if (!goal.isBareBehindEnd()",
            "if (goal.count > 0 && owner.typeAt(goal.variableAt(0)) == NONE) {"
                + " owner.types.set(goal.variableAt(0), 0, first); } if (!goal.isBareBehindEnd()"},
        {"aRefusedQuestionChangesNothing", "chains.set(chain, 0, numbered.get(term, NEXT)); numbered.cut(term);",
            "numbered.cut(term);"},
        {"aRefusedQuestionChangesNothing aQuestionMakesNoMoreThanTwoHundredTerms",
            "if (isFull) { store.forgetFrom(termsBefore); }", ""},
        {"aRefusedFirstQuestionTakesAllBack", "term >= count && term >= 0; term--",
            "term >= count && term > 0; term--"},
        {"aRefusedLookChangesNothing", "if (last.breadthCount == NONE) {",
            "if (last.breadthCount == NONE) { asked = 0;"},
        {"whatIsListedFirstIsThrownWhileBuilding", "if (!store.hasType(type) ||",
            "if (first == NONE && second != NONE) { throw new IllegalArgumentException(); }"
                + " if (!store.hasType(type) ||"},
        {"whatIsListedFirstIsThrownOfFullTerms", "if (!store.fits(constructor, first, second)) {",
            "if (store.termCount() < TERMS && !store.fits(constructor, first, second)) {"},
        {"whatIsListedFirstIsThrownOfModes", "Mode wanted = program.modeAt(predicate, mode); if (wanted == null) {",
            "refuseUncompiled(); Mode wanted = program.modeAt(predicate, mode); if (wanted == null) {"},
        {"whatIsListedFirstIsThrownOfQuestions", "if (!doInputsFit(question, first, second, third)) {",
            "if (isCompiled && !doInputsFit(question, first, second, third)) {"},

        // ---- promises 1 to 7
        {"aNewObjectIsEmpty", "breadth = new Breadth(program, store); isCompiled = false;",
            "breadth = new Breadth(program, store); isCompiled = true;"},
        {"noTypeIsAddedWhenAllIsCompiled", "if (store.typeCount() >= TYPES || isCompiled) {",
            "if (store.typeCount() >= TYPES) {"},
        {"addTypeTellsTheNumber", "return types - 1;", "return types;"},
        {"aConstructorNeedsItsType", "if (!store.hasType(type) ||", "if (!isTypeOrNone(type) ||"},
        {"aConstructorNeedsTheTypesOfItsParts",
            "if (!store.hasType(type) || !isTypeOrNone(first) || !isTypeOrNone(second)) {",
            "if (!store.hasType(type) || !isTypeOrNone(first)) {"},
        {"aSecondPartNeedsAFirstOne", "if (first == NONE && second != NONE) {",
            "if (first == NONE && second == MANY) {"},
        {"anEleventhConstructorIsRefused", "CONSTRUCTORS = 10;", "CONSTRUCTORS = 11;"},
        {"noConstructorIsAddedWhenAllIsCompiled", "if (store.constructorCount() >= CONSTRUCTORS || isCompiled) {",
            "if (store.constructorCount() >= CONSTRUCTORS) {"},
        {"partsMayBeNone", "if (constructors.get(constructor, FIRST) == NONE) { return 0; }",
            "if (constructors.get(constructor, FIRST) == NONE) { return 1; }"},
        {"aTermNeedsItsConstructor", "constructor >= 0 && constructor < constructors.count();",
            "constructor >= 0 && constructor <= constructors.count();"},
        {"aTermNeedsItsParts", "(parts < 1 || hasTerm(first)) && (parts < 2 || hasTerm(second));",
            "(parts < 1 || hasTerm(first));"},
        {"aTermNeedsPartsOfItsTypes", ": typeOfHead(headOf(part)) == type;", ": hasTerm(part);"},
        {"partsThatAreNotThereAreZero", "type == NONE ? part == 0 :", "type == NONE ? part >= 0 :"},
        {"aNewTermNeedsANumber", "if (old != NONE || numbered.count() >= TERMS) { return old; }",
            "if (old != NONE && numbered.count() < TERMS) { return old; }"
                + " if (numbered.count() >= TERMS) { return NONE; }"},
        {"theFirstPartMayBeNone", "type == NONE ? part == 0 :", "type == NONE ? part == (index == 0 ? NONE : 0) :"},
        {"theSecondPartMayBeNone", "type == NONE ? part == 0 :", "type == NONE ? part == (index == 1 ? NONE : 0) :"},
        {"constructorOfNeedsATerm", "refuseMissingTerm(term); return store.headOf(term);",
            "return store.headOf(term);"},
        {"partOfNeedsATerm", "refuseMissingTerm(term); if (index < 0", "if (index < 0"},
        {"partOfNeedsAPart", "index >= store.partCount(store.headOf(term))",
            "index > store.partCount(store.headOf(term))"},
        {"sizesCountEachStanding", "(parts > 1 ? size(second) : 0)",
            "(parts > 1 && second != first ? size(second) : 0)"},
        {"sizesGoRound", "return term >= 0 && term < sizes.length ? sizes[term] : 0;",
            "return term >= 0 && term < sizes.length ? sizes[term] < 0 ? Long.MAX_VALUE : sizes[term] : 0;"},
        {"sizeOfNeedsATerm", "refuseMissingTerm(term); return store.size(term);", "return store.size(term);"},

        // ---- promises 8 to 13
        {"aPredicateNeedsItsTypes", "!isTypeOrNone(second) || !isTypeOrNone(third)) {", "!isTypeOrNone(second)) {"},
        {"argumentsStandTogether", "|| second == NONE && third != NONE) {", ") {"},
        {"noPredicateIsAddedWhenAllIsCompiled", "if (program.predicateCount() >= PREDICATES || isCompiled) {",
            "if (program.predicateCount() >= PREDICATES) {"},
        {"argumentsMayBeNone", "second == NONE ? 1 :", "second == NONE ? 2 :"},
        {"aModeNeedsItsPredicate aClauseNeedsItsPredicate aCallNeedsClausePredicateAndVariables",
            "return predicate >= 0 && predicate < predicates.size() ? predicates.get(predicate) : null;",
            "return predicates.isEmpty() ? null"
                + " : predicates.get(Math.max(0, Math.min(predicate, predicates.size() - 1)));"},
        {"aModeNeedsItsInputs", "(inputs & ~owner.argumentSet()) != 0", "inputs > owner.argumentSet()"},
        {"aModeNeedsItsPromise", "|| promise == 'n';", "|| promise == 'n' || promise == 'x';"},
        {"aModeNeedsItsPromise", "return promise == 'd' ||", "return"},
        {"aThirdModeIsRefused", "MODES = 2;", "MODES = 3;"},
        {"noModeIsAddedWhenAllIsCompiled", "if (owner.modeCount() >= MODES || isCompiled) {",
            "if (owner.modeCount() >= MODES) {"},
        {"aThirteenthClauseIsRefused", "CLAUSES = 12;", "CLAUSES = 13;"},
        {"noClauseIsAddedWhenAllIsCompiled", "if (program.clauseCount() >= CLAUSES || isCompiled) {",
            "if (program.clauseCount() >= CLAUSES) {"},
        {"aClauseBeginsWithoutGoals", "new Clause(clauses.size(), owner);",
            "new Clause(clauses.size(), owner); clause.goals.add(owner.question);"},
        {"aBuildNeedsClauseConstructorAndVariables", "&& z >= 0 && z < VARIABLES;", ";"},
        {"aBuildNeedsClauseConstructorAndVariables", "owner == null || !store.hasConstructor(constructor) ||",
            "owner == null ||"},
        {"aBuildNeedsVariablesOfItsTypes aSameNeedsLikeTypes aCallNeedsVariablesOfItsTypes",
            "if (type != NONE && type != due) {", "if (place == 0 && type != NONE && type != due) {"},
        {"variablesOfPartsThatAreNotThereAreZero variablesOfArgumentsThatAreNotThereAreZero",
            "for (int place = count; place < ARGUMENTS; place++) {",
            "for (int place = count + 1; place < ARGUMENTS; place++) {"},
        {"noBuildIsAddedWhenAllIsCompiled noSameIsAddedWhenAllIsCompiled noCallIsAddedWhenAllIsCompiled",
            "if (owner.goalCount() >= GOALS || isCompiled) {", "if (owner.goalCount() >= GOALS) {"},
        {"theVariableOfNoPartIsZero", "1 + store.partCount(constructor), x, y, z",
            "1 + Math.max(1, store.partCount(constructor)), x, y, z"},
        {"theVariableOfNoSecondPartIsZero", "1 + store.partCount(constructor), x, y, z",
            "store.partCount(constructor) == 1 ? 3 : 1 + store.partCount(constructor), x, y, z"},
        {"aSameNeedsClauseAndVariables", "!areVariables(x, y, 0)", "!areVariables(x, 0, 0)"},
        {"aSameNeedsAType", "if (type == NONE) { throw", "if (type == NONE && x != y) { throw"},
        {"aSameOfOneVariable", "!areVariables(x, y, 0)", "!areVariables(x, y, 0) || x == y"},
        {"aCallNeedsClausePredicateAndVariables", "called == null || !areVariables(x, y, z)",
            "called == null || !areVariables(x, y, 0)"},
        {"theVariableOfNoArgumentIsZero", "new Goal(kind, predicate, called.arity(), x, y, z);",
            "new Goal(kind, predicate, Math.max(1, called.arity()), x, y, z);"},
        {"callsAreDeniedOrNot", "isDenied ? Goal.DENIED : Goal.CALL;", "isDenied ? Goal.CALL : Goal.DENIED;"},

        // ---- promises 14 to 21
        {"compileCountsFaults", "count += modes.get(i).faultSign() == '-' ? 0 : 1;",
            "count += modes.get(i).good ? 0 : 1;"},
        {"nothingIsCompiledTwice", "if (isCompiled) { throw new IllegalStateException(); } program.analyse(store);",
            "program.analyse(store);"},
        {"allCanBeChangedWhenItIsOpen", "mode.canRepeat = false;", ""},
        {"allCanBeChangedWhenItIsOpen", "int questions = asked; isCompiled = false;", "int questions = asked;"},
        {"openForgetsWhatWasAsked", "isCompiled = false; asked = 0; stepSum = 0; return questions;",
            "isCompiled = false; return questions;"},
        {"openTellsTheNumberOfQuestions", "int questions = asked;", "int questions = last.answerCount();"},
        {"onlyWhatIsCompiledIsOpened", "refuseUncompiled(); int questions", "int questions"},
        {"faultNeedsAMode", "return compiledMode(predicate, mode).faultSign();",
            "return compiledMode(predicate, Math.max(0, mode)).faultSign();"},
        {"faultNeedsAllCompiled isGoodNeedsAllCompiled foundNeedsAllCompiled switchOfNeedsAllCompiled",
            "refuseUncompiled(); return wanted;", "return wanted;"},
        {"faultsAreTold", "return good && isBroken() ? 'p' : '-';", "return good && isBroken() ? 'o' : '-';"},
        {"isGoodNeedsAMode", "return compiledMode(predicate, mode).good;",
            "return compiledMode(predicate, Math.max(0, mode)).good;"},
        {"aFaultOfPromiseLeavesAModeGood", "return compiledMode(predicate, mode).good;",
            "return compiledMode(predicate, mode).good && compiledMode(predicate, mode).faultSign() == '-';"},
        {"foundNeedsAMode", "Mode wanted = compiledMode(predicate, mode); if (!wanted.good) {",
            "Mode wanted = compiledMode(predicate, Math.max(0, mode)); if (!wanted.good) {"},
        {"foundNeedsAGoodMode", "if (!wanted.good) {", "if (wanted.lost) {"},
        {"switchOfNeedsAMode", "Mode wanted = compiledMode(predicate, mode); if (wanted.lost",
            "Mode wanted = compiledMode(predicate, Math.max(0, mode)); if (wanted.lost"},
        {"switchOfNeedsASwitch", "if (wanted.lost || wanted.switchPlace == NONE) {",
            "if (wanted.switchPlace == NONE) {"},
        {"switchOfNeedsASwitch", "if (wanted.lost || wanted.switchPlace == NONE) {",
            "if (!wanted.good || wanted.switchPlace == NONE) {"},
        {"switchesTellTheirPlace", "return wanted.switchPlace;", "return 0;"},
        {"goalAtNeedsClauseAndMode chosenAtNeedsClauseAndMode", "ordered.predicate.modeAt(mode) == null",
            "mode < 0 || mode >= MODES"},
        {"goalAtNeedsAllCompiled chosenAtNeedsAllCompiled", "refuseUncompiled(); return ordered;", "return ordered;"},
        {"goalAtNeedsAPlace", "place >= 0 && place < GOALS && place < lengths[mode] ? mode",
            "place >= 0 && place < GOALS ? mode"},
        {"goalsAreAtTheirPlaces", "slot < numbers.length ? numbers[slot] : NONE;",
            "slot < numbers.length ? slot % GOALS : NONE;"},
        {"chosenAtNeedsACall", "if (chosen == null) { throw new NoSuchElementException(); }",
            "if (chosen == null) { return 0; }"},
        {"chosenModesAreAtTheirPlaces", "Mode chosenIn(int mode, int place) { int slot = slot(mode, place);",
            "Mode chosenIn(int mode, int place) { int slot = slot(mode, placeCount(mode) - 1 - place);"},
        {"theChosenModeIsTold", "return chosen.number;", "return 0;"},

        // ---- promises 22 to 26
        {"aQuestionNeedsAMode", "Mode question = program.modeAt(predicate, mode);",
            "Mode question = program.modeAt(predicate, Math.max(0, mode));"},
        {"aQuestionNeedsItsInputs",
            "for (int place = 0; place < ARGUMENTS; place++) { if (mode.isInput(place) && !store.hasTerm",
            "for (int place = 0; place < 2; place++) { if (mode.isInput(place) && !store.hasTerm"},
        {"aQuestionNeedsInputsOfItsTypes", "? store.typeOfHead(store.headOf(given)) == mode.predicate.typeAt(place)",
            "? store.hasTerm(given)"},
        {"whatIsNoInputIsZero", ": given == 0;", ": given >= 0;"},
        {"aQuestionNeedsAllCompiled", "refuseUncompiled(); spare.begin", "spare.begin"},
        {"aQuestionNeedsAGoodMode", "if (!question.good || !machine.run", "if (question.lost || !machine.run"},
        {"aQuestionNeedsAGoodMode", "if (!question.good || !machine.run",
            "if (!question.good || question.faultSign() != '-' || !machine.run"},
        {"eachQuestionIsAskedAnew", "isDenied = false;", ""},
        {"askTellsTheNumberOfAnswers", "return last.answerCount();", "return Math.min(1, last.answerCount());"},
        {"theFirstArgumentMayBeNoInput", "inputs.add(question.isInput(place) ? given : NONE",
            "inputs.add(question.isInput(place) || place == 0 ? given : NONE"},
        {"theSecondArgumentMayBeNoInput", "inputs.add(question.isInput(place) ? given : NONE",
            "inputs.add(question.isInput(place) || place == 1 ? given : NONE"},
        {"theThirdArgumentMayBeNoInput", "inputs.add(question.isInput(place) ? given : NONE",
            "inputs.add(question.isInput(place) || place == 2 ? given : NONE"},
        {"endingNeedsAQuestion", "refuseUnasked(); return last.end;", "return last.end;"},
        {"endingsAreTold", "report.end = end;", "report.end = 'e';"},
        {"answerAtNeedsAQuestion", "refuseUnasked(); if (!last.hasAnswer(answer) || !last",
            "if (!last.hasAnswer(answer) || !last"},
        {"answerAtNeedsAnswerAndArgument", "|| !last.hasArgument(argument)) {", ") {"},
        {"answersAreInTheirOrder", "return answers.get(answer, argument);",
            "return answers.get(answers.count() - 1 - answer, argument);"},
        {"answersTellInputsToo", "int second = arity > 1 ? frame.valueOf(1) : NONE;",
            "int second = arity > 1 && !frame.mode.isInput(1) ? frame.valueOf(1) : NONE;"},
        {"multiplicityNeedsAQuestion", "refuseUnasked(); if (!last.hasAnswer(answer)) {",
            "if (!last.hasAnswer(answer)) {"},
        {"multiplicityNeedsAnAnswer", "if (!last.hasAnswer(answer)) {", "if (answer < 0) {"},
        {"multiplicitiesAreThoseOfTheirAnswers", "answers.get(other, place) == answers.get(answer, place)",
            "answers.get(other, place) == answers.get(0, place)"},
        {"likeAnswersAreCounted", "int third = arity > 2 ? frame.valueOf(2) : NONE;", "int third = frame.valueOf(2);"},
        {"likeAnswersAreCounted", "for (int place = 0; place < ARGUMENTS; place++) { isLike =",
            "for (int place = 0; place < 1; place++) { isLike ="},
        {"answersByBreadthNeedsAQuestion", "refuseUnasked(); if (!last.isBreadthKnown)", "if (!last.isBreadthKnown)"},
        {"breadthIsOfTheLastQuestion", "isBreadthKnown = false; breadthCount = NONE;", "breadthCount = NONE;"},
        {"breadthIsOfTheLastQuestion", "nodes.cut(0);", ""},
        {"aBreadthThatWasGivenUpIsForgotten", "levels.cut(0);", ""},
        {"whatHasNoEndCannotBeAnsweredByBreadth",
            "if (last.breadthCount == NONE) { throw new UnsupportedOperationException(); }", ""},
        {"breadthHasNoLimitOfFiftyAnswers", "answers++;", "answers = Math.min(ANSWERS, answers + 1);"},

        // ---- promises 27 to 35
        {"stepsNeedsAQuestion", "refuseUnasked(); return last.stepCount;", "return last.stepCount;"},
        {"stepsOfDeniedCallsCount", "report.stepCount++;", "report.stepCount += denied == null ? 1 : 0;"},
        {"choicePointsNeedsAQuestion", "refuseUnasked(); return last.choiceCount;", "return last.choiceCount;"},
        {"choicePointsOfDeniedCallsCount", "report.choiceCount++;", "report.choiceCount += denied == null ? 1 : 0;"},
        {"deepestNeedsAQuestion", "refuseUnasked(); return last.deepestCall;", "return last.deepestCall;"},
        {"theDeepestCallIsTold", "report.deepestCall = Math.max(report.deepestCall, frame.depth);",
            "report.deepestCall = Math.max(report.deepestCall, denied == null ? frame.depth : 1);"},
        {"theDeepestCallIsTold", "report.deepestCall = Math.max(report.deepestCall, frame.depth);",
            "report.deepestCall = frame.depth;"},
        {"recordedNeedsAQuestion", "refuseUnasked(); return last.noteCount();", "return last.noteCount();"},
        {"thingsAreCounted", "int noteCount() { return notes.count(); }", "int noteCount() { return RECORD; }"},
        {"recordAtNeedsAQuestion whereAtNeedsAQuestion", "refuseUnasked(); if (index < 0 || index >=",
            "if (index < 0 || index >="},
        {"recordAtNeedsAPlace whereAtNeedsAPlace", "index >= last.noteCount()", "index > last.noteCount()"},
        {"thingsAreOnRecordInTheirOrder", "notes.get(index, SIGN)", "notes.get(notes.count() - 1 - index, SIGN)"},
        {"allFourThingsAreTold", "report.note('f', called.number, frame.depth);",
            "report.note('x', called.number, frame.depth);"},
        {"placesAreOnRecordInTheirOrder", "notes.get(index, WHERE)", "notes.get(notes.count() - 1 - index, WHERE)"},
        {"termsAreCounted", "return store.termCount();", "return store.typeCount();"},
        {"onceShareNeedsAllCompiled", "refuseUncompiled(); int good", "int good"},
        {"onceShareNeedsAGoodMode", "if (good == 0) {", "if (good < 0) {"},
        {"theShareIsOfGoodModes", "(float) program.onceCount() / (float) good;",
            "(float) program.onceCount() / (float) program.modes.size();"},
        {"theShareIsOfGoodModes", "(float) program.onceCount() / (float) good;", "program.onceCount() / good;"},
        {"meanStepsNeedsAQuestion", "if (asked == 0) { throw new ArithmeticException(); }",
            "if (asked < 0) { throw new ArithmeticException(); }"},
        {"theMeanIsOfAllQuestions", "(double) stepSum / (double) asked;", "stepSum / asked;"},
    };

    private static final JavaCompiler COMPILER = ToolProvider.getSystemJavaCompiler();

    /** The compiler's files are looked up once for each thread: that is what takes long. */
    private static final ThreadLocal<JavaFileManager> FILES =
            ThreadLocal.withInitial(() -> COMPILER.getStandardFileManager(problem -> { }, null, null));

    static final class Text extends SimpleJavaFileObject {
        private final String text;

        Text(String name, String text) {
            super(URI.create("string:///" + name + ".java"), Kind.SOURCE);
            this.text = text;
        }

        @Override
        public CharSequence getCharContent(boolean ignoresErrors) {
            return text;
        }
    }

    static final class Code extends SimpleJavaFileObject {
        private final ByteArrayOutputStream bytes = new ByteArrayOutputStream();

        Code(String name) {
            super(URI.create("memory:///" + name + ".class"), Kind.CLASS);
        }

        @Override
        public OutputStream openOutputStream() {
            return bytes;
        }
    }

    /** Classes from memory, each loader with a broken program of its own. */
    static final class Loader extends ClassLoader {
        private final Map<String, byte[]> classes;

        Loader(Map<String, byte[]> classes) {
            super(Breaks.class.getClassLoader().getParent());
            this.classes = classes;
        }

        @Override
        protected Class<?> findClass(String name) throws ClassNotFoundException {
            byte[] bytes = classes.get(name);
            if (bytes == null) throw new ClassNotFoundException(name);
            return defineClass(name, bytes, 0, bytes.length);
        }
    }

    /** The classes of some texts, or null if they do not compile. */
    static Map<String, byte[]> compiled(List<Text> texts) {
        Map<String, Code> codes = new HashMap<>();
        JavaFileManager manager = new ForwardingJavaFileManager<>(FILES.get()) {
            @Override
            public JavaFileObject getJavaFileForOutput(Location at, String name, JavaFileObject.Kind kind,
                    FileObject from) {
                return codes.computeIfAbsent(name, Code::new);
            }
        };
        List<String> options = List.of("-proc:none", "-nowarn");
        if (!COMPILER.getTask(new StringWriter(), manager, problem -> { }, options, null, texts).call()) return null;
        Map<String, byte[]> classes = new HashMap<>();
        for (Map.Entry<String, Code> code : codes.entrySet()) {
            classes.put(code.getKey(), code.getValue().bytes.toByteArray());
        }
        return classes;
    }

    /** What stands in the program, whatever spaces and lines lie between its words. */
    static Pattern pattern(String from) {
        List<String> words = new ArrayList<>();
        for (String word : from.split(" ")) words.add(Pattern.quote(word));
        return Pattern.compile(String.join("\\s+", words));
    }

    /** The program with a break in it, or null if that what is to be broken does not stand there just once. */
    static String broken(String program, String from, String to) {
        Matcher m = pattern(from).matcher(program);
        if (!m.find()) return null;
        String text = program.substring(0, m.start()) + to + program.substring(m.end());
        return m.find() ? null : text;
    }

    /** What is wrong with a break, or nothing. */
    static String wrongWith(String program, Map<String, byte[]> edges, String[] oneBreak) {
        String text = broken(program, oneBreak[1], oneBreak[2]);
        if (text == null) return "the program does not have this just once: " + oneBreak[1];
        Map<String, byte[]> classes = compiled(List.of(new Text("ModedMill", text)));
        if (classes == null) return "it does not compile with this: " + oneBreak[2];
        classes.putAll(edges);
        StringBuilder wrong = new StringBuilder();
        try {
            Loader loader = new Loader(classes);
            Method fails = loader.loadClass("Edge").getDeclaredMethod("fails", Class.class, String.class);
            fails.setAccessible(true);
            for (String test : oneBreak[0].split(" ")) {
                boolean isSeen = false;
                for (String of : CLASSES) isSeen |= (boolean) fails.invoke(null, loader.loadClass(of), test);
                if (!isSeen) wrong.append(test).append(" holds with this: ").append(oneBreak[2]).append(' ');
            }
        } catch (ReflectiveOperationException e) {
            return e + " with this: " + oneBreak[2];
        }
        return wrong.toString();
    }

    /** The tests of all edges that have no break. */
    static TreeSet<String> unbroken(Map<String, byte[]> edges, Map<String, byte[]> whole)
            throws ReflectiveOperationException {
        Map<String, byte[]> classes = new HashMap<>(edges);
        classes.putAll(whole);
        Loader loader = new Loader(classes);
        Method names = loader.loadClass("Edge").getDeclaredMethod("names", Class.class);
        names.setAccessible(true);
        TreeSet<String> unbroken = new TreeSet<>();
        for (String of : CLASSES) unbroken.addAll(Arrays.asList((String[]) names.invoke(null, loader.loadClass(of))));
        for (String[] oneBreak : BREAKS) unbroken.removeAll(Arrays.asList(oneBreak[0].split(" ")));
        return unbroken;
    }

    static Map<String, byte[]> edges(String program) throws IOException {
        List<Text> texts = new ArrayList<>();
        texts.add(new Text("ModedMill", program));
        texts.add(new Text("Edge", Files.readString(Path.of("src/test/support/Edge.java"))));
        for (String of : CLASSES) texts.add(new Text(of, Files.readString(Path.of("src/test/java/" + of + ".java"))));
        Map<String, byte[]> classes = compiled(texts);
        classes.keySet().removeIf(name -> name.equals("ModedMill") || name.startsWith("ModedMill$"));
        return classes;
    }

    public static void main(String[] args) throws Exception {
        String program = Files.readString(Path.of(args.length > 0 ? args[0] : "src/main/java/ModedMill.java"));
        Map<String, byte[]> edges = edges(program);
        TreeSet<String> unbroken = unbroken(edges, compiled(List.of(new Text("ModedMill", program))));
        for (String test : unbroken) System.out.println("no break for " + test);
        String[] wrong = IntStream.range(0, BREAKS.length).parallel()
                .mapToObj(i -> wrongWith(program, edges, BREAKS[i])).toArray(String[]::new);
        int count = unbroken.size();
        for (int i = 0; i < wrong.length; i++) {
            if (wrong[i].isEmpty()) continue;
            count++;
            System.out.println(BREAKS[i][0] + ": " + wrong[i]);
        }
        System.out.println(count == 0 ? "all " + BREAKS.length + " breaks are seen" : count + " breaks are not seen");
        if (count != 0) System.exit(1);
    }
}
