import java.io.IOException;
import java.lang.reflect.Method;
import java.lang.reflect.Modifier;
import java.nio.file.Files;
import java.nio.file.Path;

/** Holds README.md to the class: its example answers what it says, and it names each method of the face. */
public final class ReadmeTest {
    private final String readme;
    private int at;
    private static int wrong;

    private ReadmeTest(String readme) {
        this.readme = readme;
    }

    public static void main(String[] args) throws IOException {
        ReadmeTest test = new ReadmeTest(Files.readString(Path.of("README.md")));
        test.followExample();
        test.findFace();
        System.out.println(wrong == 0 ? "README.md is right" : wrong + " faults of README.md");
        System.exit(wrong == 0 ? 0 : 1);
    }

    private static void complain(String what) {
        wrong++;
        System.out.println(what);
    }

    /** The next line of the example has to begin like this, and say what it answers, if it says so. */
    private void line(String code) {
        int found = readme.indexOf("\n" + code, at);
        if (found < 0) {
            complain("README.md does not go on with: " + code);
        } else {
            at = found + 1;
        }
    }

    private void line(String code, String said, long got, long due) {
        line(code);
        int end = readme.indexOf('\n', at);
        if (end < 0 || !readme.substring(at, end).contains(said)) {
            complain("README.md does not say " + said + " behind: " + code);
        }
        if (got != due) {
            complain(code + " answered " + got + ", README.md says " + due);
        }
    }

    private void followExample() {
        line("TriggerAnalyzer x = new TriggerAnalyzer();");
        TriggerAnalyzer x = new TriggerAnalyzer();
        line("int a = x.addRule(0, true, 0, 0);");
        int a = x.addRule(0, true, 0, 0);
        line("x.addAction(a, 1, true);");
        x.addAction(a, 1, true);
        line("int b = x.addRule(0, true, 2, 0);");
        int b = x.addRule(0, true, 2, 0);
        line("x.addAction(b, 2, true);");
        x.addAction(b, 2, true);
        line("x.change(0, true);", "answers 3,", x.change(0, true), 3);
        line("x.explore();");
        x.explore();
        line("x.endCount();", "// 2:", x.endCount(), 2);
        line("x.conflictCount();", "// 1:", x.conflictCount(), 1);
        line("x.rank(a, b);");
        x.rank(a, b);
        line("x.explore();");
        x.explore();
        line("x.endCount();", "// 1", x.endCount(), 1);
    }

    private void findFace() {
        for (Method method : TriggerAnalyzer.class.getDeclaredMethods()) {
            if (Modifier.isPublic(method.getModifiers()) && !readme.contains("`" + method.getName() + "`")) {
                complain("README.md does not name " + method.getName());
            }
        }
    }
}
