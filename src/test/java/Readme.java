import java.nio.file.Files;
import java.nio.file.Path;
import java.util.List;

/** The calls that README.md shows: each answers as it says there. */
public final class Readme {
    private static int wrong = 0;

    static void due(Object want, Object got) {
        if (!want.equals(got)) {
            wrong++;
            System.out.println("answered " + got + ", due is " + want + " at " + new Throwable().getStackTrace()[1]);
        }
    }

    /** What is called here stands on the page, and the other way round. */
    static void isOnThePage() throws Exception {
        String page = Files.readString(Path.of("README.md"));
        String test = Files.readString(Path.of("src/test/java/Readme.java"));
        List<String> blocks = List.of(page.split("```"));
        due(true, blocks.size() > 1);
        String block = blocks.get(Math.min(1, blocks.size() - 1));
        for (String line : block.split("\n")) {
            String call = line.split(";")[0].trim();
            if (!call.isEmpty() && !call.equals("java") && !test.contains(call)) {
                wrong++;
                System.out.println("not called here: " + call);
            }
        }
    }

    static void calls() {
        ModedMill m = new ModedMill();
        int list = m.addType();
        int nil = m.addConstructor(list, -1, -1);
        int more = m.addConstructor(list, list, -1);
        int sum = m.addPredicate(list, list, list);
        int forth = m.addMode(sum, 3, 'd');
        int back = m.addMode(sum, 4, 'm');
        int end = m.addClause(sum);
        m.addBuild(end, 0, nil, 0, 0);
        m.addSame(end, 1, 2);
        int step = m.addClause(sum);
        m.addBuild(step, 0, more, 3, 0);
        m.addCall(step, sum, 3, 1, 4, false);
        m.addBuild(step, 2, more, 4, 0);
        due(0, m.compile());
        due('d', m.found(sum, forth));
        due(0, m.switchOf(sum, forth));
        due(2, m.goalAt(step, back, 0));
        int none = m.term(nil, 0, 0);
        due(0, none);
        int one = m.term(more, none, 0);
        due(1, one);
        due(1, m.ask(sum, forth, one, one, 0));
        due(2, m.answerAt(0, 2));
        due(3, m.ask(sum, back, 0, 0, 2));
        due('e', m.ending());
        due('c', m.recordAt(0));
        due(1, m.whereAt(0));
        due((5 + m.steps()) / 2.0, m.meanSteps());
        due(2, m.open());
    }

    public static void main(String[] args) throws Exception {
        isOnThePage();
        calls();
        System.out.println(wrong == 0 ? "the page is right" : wrong + " things are not as due");
        if (wrong != 0) System.exit(1);
    }
}
