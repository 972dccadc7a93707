import java.io.IOException;
import java.lang.reflect.Member;
import java.lang.reflect.Modifier;
import java.nio.file.Files;
import java.nio.file.Path;
import java.util.ArrayList;
import java.util.Arrays;
import java.util.HashSet;
import java.util.List;
import java.util.Set;
import java.util.regex.Matcher;
import java.util.regex.Pattern;

/** Looks for what LANGUAGE.md rules out, as far as words and the compiled class show it. */
public final class LanguageTest {
    private static final String[] RULED_OUT = {
        "\\bimport\\b", "\\bpackage\\b", "->", "::", "\\bfinally\\b", "\\bsynchronized\\b", "\\bassert\\b",
        "\\bObject\\b", "\\bSystem\\.(?!arraycopy)", "\\bThread\\b", "Exact\\(",
        "\\bvar\\b", "\\btransient\\b", "\\bvolatile\\b", "\\bnative\\b", "\\bstatic \\{", "\\bint hashCode\\b",
        "\\bboolean equals\\b", "\\bString toString\\b", "\\bwhile \\(true\\)", "for \\(;;\\)"};
    private static int wrong;

    public static void main(String[] args) throws IOException {
        String text = Files.readString(Path.of("src/main/java/TriggerAnalyzer.java"));
        String code = text.replaceAll("(?s)/\\*.*?\\*/", "").replaceAll("//[^\n]*", "").replaceAll("\"[^\"\n]*\"", "\"\"");
        for (String ruledOut : RULED_OUT) {
            if (Pattern.compile(ruledOut).matcher(code).find()) {
                complain("the class uses " + ruledOut);
            }
        }
        membersAreHidden();
        namesAreUnlike(code);
        methodsAreShort(code);
        System.out.println(wrong == 0 ? "the language is kept" : wrong + " faults of language");
        System.exit(wrong == 0 ? 0 : 1);
    }

    private static void complain(String what) {
        wrong++;
        System.out.println(what);
    }

    /** Every member that is not of the face is private. */
    private static void membersAreHidden() {
        List<Member> members = new ArrayList<>(Arrays.asList(TriggerAnalyzer.class.getDeclaredMethods()));
        members.addAll(Arrays.asList(TriggerAnalyzer.class.getDeclaredFields()));
        int open = 0;
        for (Member member : members) {
            int modifiers = member.getModifiers();
            if (Modifier.isPublic(modifiers)) {
                open++;
            } else if (!Modifier.isPrivate(modifiers)) {
                complain("neither public nor private: " + member.getName());
            }
            if (Modifier.isStatic(modifiers) && member instanceof java.lang.reflect.Field && !Modifier.isFinal(modifiers)) {
                complain("static, but not final: " + member.getName());
            }
        }
        if (open != 31) {
            complain("the face has 31 methods, the class has " + open);
        }
    }

    /** No other method, in the classes inside either, bears the name of one of the face. */
    private static void namesAreUnlike(String code) {
        Set<String> face = new HashSet<>();
        Matcher methods = Pattern.compile("(?m)^ {4}public [a-z]+ (\\w+)\\(").matcher(code);
        while (methods.find()) {
            face.add(methods.group(1));
        }
        Matcher others = Pattern.compile("(?m)^ +(?!public|return|else|new)(?:private |static )*[\\w\\[\\]]+ (\\w+)\\([^;]*\\{$").matcher(code);
        while (others.find()) {
            if (face.contains(others.group(1))) {
                complain("bears the name of a method of the face: " + others.group(1));
            }
        }
    }

    private static void methodsAreShort(String code) {
        int length = 0;
        for (String line : code.split("\n")) {
            length = line.isBlank() || line.matches(" {4}(?: {4})?\\}") ? 0 : length + 1;
            if (length > 60) {
                complain("a long method near: " + line);
                return;
            }
        }
    }
}
