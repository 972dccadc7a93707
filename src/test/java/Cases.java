import java.util.ArrayList;
import java.util.List;

/** The cases of the document's sentences: each tells its promise, the case, and the sentence that it holds to. */
final class Cases {
    /** Stands for the parts of the document before the promises. */
    static final int DESCRIPTION = 0;

    interface Body {
        void test();
    }

    record Case(int promise, String name, String sentence, Body body) {
        String title() {
            return (promise == DESCRIPTION ? "Description" : "Promise " + promise) + ", " + name;
        }
    }

    private final List<Case> list = new ArrayList<>();

    void add(int promise, String name, String sentence, Body body) {
        list.add(new Case(promise, name, sentence, body));
    }

    List<Case> list() {
        return list;
    }

    static String index(String when) {
        return "Throws `IndexOutOfBoundsException` if " + when;
    }

    static String argument(String when) {
        return "Throws `IllegalArgumentException` if " + when;
    }

    static String state(String when) {
        return "Throws `IllegalStateException` if " + when;
    }
}
