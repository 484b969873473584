import java.lang.reflect.Constructor;
import java.lang.reflect.Field;
import java.lang.reflect.Method;
import java.lang.reflect.Modifier;
import java.nio.file.Files;
import java.nio.file.Path;
import java.util.ArrayList;
import java.util.Arrays;
import java.util.List;
import java.util.Set;
import java.util.TreeSet;
import java.util.regex.Matcher;
import java.util.regex.Pattern;

/**
 * The public face as the document lists it, and those rules of LANGUAGE.md that a plain look at the text shows.
 * Arguments: the path of the program.
 */
public final class Face {
    private static final String[] METHODS = {
        "int addType() IllegalStateException",
        "int addConstructor(int,int,int) IndexOutOfBoundsException,IllegalArgumentException,IllegalStateException",
        "int term(int,int,int) IndexOutOfBoundsException,IllegalArgumentException,IllegalStateException",
        "int constructorOf(int) IndexOutOfBoundsException",
        "int partOf(int,int) IndexOutOfBoundsException,NoSuchElementException",
        "long sizeOf(int) IndexOutOfBoundsException",
        "int addPredicate(int,int,int) IndexOutOfBoundsException,IllegalArgumentException,IllegalStateException",
        "int addMode(int,int,char) IndexOutOfBoundsException,IllegalArgumentException,IllegalStateException",
        "int addClause(int) IndexOutOfBoundsException,IllegalStateException",
        "int addBuild(int,int,int,int,int) IndexOutOfBoundsException,IllegalArgumentException,IllegalStateException",
        "int addSame(int,int,int) IndexOutOfBoundsException,IllegalArgumentException,IllegalStateException",
        "int addCall(int,int,int,int,int,boolean) "
            + "IndexOutOfBoundsException,IllegalArgumentException,IllegalStateException",
        "int compile() IllegalStateException",
        "int open() IllegalStateException",
        "char fault(int,int) IndexOutOfBoundsException,IllegalStateException",
        "boolean isGood(int,int) IndexOutOfBoundsException,IllegalStateException",
        "char found(int,int) IndexOutOfBoundsException,IllegalStateException,NoSuchElementException",
        "int switchOf(int,int) IndexOutOfBoundsException,IllegalStateException,NoSuchElementException",
        "int goalAt(int,int,int) IndexOutOfBoundsException,IllegalStateException,NoSuchElementException",
        "int chosenAt(int,int,int) IndexOutOfBoundsException,IllegalStateException,NoSuchElementException",
        "int ask(int,int,int,int,int) IndexOutOfBoundsException,IllegalArgumentException,IllegalStateException,"
            + "UnsupportedOperationException",
        "char ending() NoSuchElementException",
        "int answerAt(int,int) NoSuchElementException,IndexOutOfBoundsException",
        "int multiplicity(int) NoSuchElementException,IndexOutOfBoundsException",
        "int answersByBreadth() NoSuchElementException,UnsupportedOperationException",
        "int steps() NoSuchElementException",
        "int choicePoints() NoSuchElementException",
        "int deepest() NoSuchElementException",
        "int recorded() NoSuchElementException",
        "char recordAt(int) NoSuchElementException,IndexOutOfBoundsException",
        "int whereAt(int) NoSuchElementException,IndexOutOfBoundsException",
        "int terms() ",
        "float onceShare() IllegalStateException,ArithmeticException",
        "double meanSteps() ArithmeticException",
    };

    /** What must not stand in the program's text, comments and signs in quotes left out. */
    private static final String[] FORBIDDEN = {
        "->", "::", "\\btry\\b", "\\bcatch\\b", "\\bfinally\\b", "\\bsynchronized\\b", "\\bassert\\b", "\\bvar\\b",
        "\\bString\\b", "\\bSystem\\.(?!arraycopy)", "\\bExact\\(", "\\bpackage\\b", "\\bprotected\\b",
        "static \\{", "\\bnative\\b", "\\bThread\\b", "\\bRandom\\b", "\"",
    };

    private static int wrong = 0;

    static void due(boolean isSo, String what) {
        if (!isSo) {
            wrong++;
            System.out.println(what);
        }
    }

    static String names(Class<?>[] types) {
        List<String> names = new ArrayList<>();
        for (Class<?> type : types) names.add(type.getSimpleName());
        return String.join(",", names);
    }

    static void face() {
        due(Modifier.isFinal(ModedMill.class.getModifiers()), "the class is not final");
        due(Modifier.isPublic(ModedMill.class.getModifiers()), "the class is not public");
        Set<String> want = new TreeSet<>(Arrays.asList(METHODS));
        Set<String> got = new TreeSet<>();
        Set<String> publicNames = new TreeSet<>();
        for (Method m : ModedMill.class.getDeclaredMethods()) {
            if (Modifier.isPrivate(m.getModifiers()) || m.isSynthetic()) continue;
            due(Modifier.isPublic(m.getModifiers()), m + " is neither public nor private");
            due(!Modifier.isStatic(m.getModifiers()), m + " is static");
            publicNames.add(m.getName());
            got.add(m.getReturnType().getSimpleName() + " " + m.getName() + "(" + names(m.getParameterTypes()) + ") "
                    + names(m.getExceptionTypes()));
        }
        due(got.equals(want), "the face is " + got + ", due is " + want);
        for (Field f : ModedMill.class.getDeclaredFields()) {
            due(Modifier.isPrivate(f.getModifiers()) || f.isSynthetic(), f + " is not private");
        }
        Constructor<?>[] makers = ModedMill.class.getDeclaredConstructors();
        due(makers.length == 1 && Modifier.isPublic(makers[0].getModifiers()), "not one public constructor");
        int classes = 1;
        for (Class<?> inside : ModedMill.class.getDeclaredClasses()) {
            classes++;
            due(Modifier.isStatic(inside.getModifiers()), inside + " is not static");
            int fields = 0;
            for (Field f : inside.getDeclaredFields()) {
                if (!Modifier.isStatic(f.getModifiers())) fields++;
                else due(Modifier.isFinal(f.getModifiers()), f + " is not final");
            }
            due(fields <= 20, inside + " has " + fields + " fields");
            for (Method m : inside.getDeclaredMethods()) {
                due(!publicNames.contains(m.getName()), m + " bears the name of a public method");
                due(m.getParameterCount() <= 7, m + " takes too many parameters");
            }
        }
        for (Method m : ModedMill.class.getDeclaredMethods()) {
            if (Modifier.isPrivate(m.getModifiers())) {
                due(!publicNames.contains(m.getName()), m + " bears the name of a public method");
            }
        }
        due(classes <= 12, classes + " classes");
    }

    static void text(String program) throws Exception {
        String text = Files.readString(Path.of(program));
        for (int i = 0; i < text.length(); i++) due(text.charAt(i) < 128, "a sign above 127 at " + i);
        String bare = text.replaceAll("(?s)/\\*.*?\\*/", " ").replaceAll("//[^\n]*", " ");
        for (String sign : FORBIDDEN) {
            Matcher m = Pattern.compile(sign).matcher(bare);
            if (m.find()) due(false, "the program has " + m.group());
        }
        Set<String> imports = new TreeSet<>();
        Matcher m = Pattern.compile("import ([\\w.]+);").matcher(bare);
        while (m.find()) imports.add(m.group(1));
        imports.removeAll(List.of("java.util.ArrayList", "java.util.Arrays", "java.util.NoSuchElementException"));
        due(imports.isEmpty(), "imports " + imports);
        Matcher thrown = Pattern.compile("throw new (\\w+)\\(([^)]*)\\)").matcher(bare);
        while (thrown.find()) due(thrown.group(2).isEmpty(), "throws with " + thrown.group(2));
        methodsAreShort(bare);
    }

    static void methodsAreShort(String bare) {
        String[] lines = bare.split("\n", -1);
        int from = -1;
        for (int i = 0; i < lines.length; i++) {
            String line = lines[i];
            boolean isEnd = line.equals("    }") || line.equals("        }");
            if (line.endsWith(") {") && line.matches(" {4}(?: {4})?[a-zA-Z].*") && !line.contains("class")) from = i;
            if (isEnd && from >= 0) {
                due(i - from <= 60, "a method of " + (i - from) + " lines: " + lines[from].trim());
                from = -1;
            }
        }
    }

    public static void main(String[] args) throws Exception {
        face();
        text(args.length > 0 ? args[0] : "src/main/java/ModedMill.java");
        System.out.println(wrong == 0 ? "the face and the text are as they must be" : wrong + " things are not as due");
        if (wrong != 0) System.exit(1);
    }
}
