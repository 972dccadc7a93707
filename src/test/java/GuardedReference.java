import java.util.List;

/** The plain reference behind the document's exceptions, in the order in which each promise names them. */
final class GuardedReference {
    private final ReferenceAnalyzer plain = new ReferenceAnalyzer();

    private void needRule(int rule) {
        if (rule < 0 || rule >= plain.rules.size()) {
            throw new IndexOutOfBoundsException();
        }
    }

    private static void needFact(int fact) {
        if (fact < 0 || fact > 5) {
            throw new IndexOutOfBoundsException();
        }
    }

    private static void needIndex(int index, int size) {
        if (index < 0 || index >= size) {
            throw new IndexOutOfBoundsException();
        }
    }

    private static void needRange(int number, int most) {
        if (number < 0 || number > most) {
            throw new IllegalArgumentException();
        }
    }

    private void needExplored() {
        if (!plain.explored()) {
            throw new IllegalStateException();
        }
    }

    private ReferenceAnalyzer.Situation situation(int number) {
        needExplored();
        needIndex(number, plain.explored.list.size());
        return plain.explored.list.get(number);
    }

    int addRule(int fact, boolean isSet, int must, int mustNot) {
        needFact(fact);
        needRange(must, 63);
        needRange(mustNot, 63);
        if (plain.rules.size() == 8) {
            throw new IllegalStateException();
        }
        return plain.addRule(fact, isSet, must, mustNot);
    }

    int addAction(int rule, int fact, boolean isSet) {
        needRule(rule);
        needFact(fact);
        if (plain.rules.get(rule).actions.size() == 4) {
            throw new IllegalStateException();
        }
        return plain.addAction(rule, fact, isSet);
    }

    boolean turn(int rule, boolean isOn) {
        needRule(rule);
        return plain.turn(rule, isOn);
    }

    boolean rank(int high, int low) {
        needRule(high);
        needRule(low);
        if (high == low || plain.isAbove(low, high)) {
            throw new IllegalArgumentException();
        }
        return plain.rank(high, low);
    }

    boolean isAbove(int a, int b) {
        needRule(a);
        needRule(b);
        return plain.isAbove(a, b);
    }

    int ruleCount() {
        return plain.rules.size();
    }

    int put(int facts) {
        needRange(facts, 63);
        return plain.put(facts);
    }

    int change(int fact, boolean isSet) {
        needFact(fact);
        return plain.change(fact, isSet);
    }

    int facts() {
        return ReferenceAnalyzer.maskOf(plain.present.facts());
    }

    int triggered() {
        return ReferenceAnalyzer.maskOf(plain.present.triggered());
    }

    int ready() {
        return plain.ready();
    }

    boolean play(int rule) {
        needRule(rule);
        if (!plain.readyIn(plain.present).contains(rule)) {
            throw new IllegalStateException();
        }
        return plain.play(rule);
    }

    int run(int most) {
        needRange(most, 500);
        return plain.run(most);
    }

    int explore() {
        return plain.explore();
    }

    int factsOf(int number) {
        return ReferenceAnalyzer.maskOf(situation(number).facts());
    }

    int triggeredOf(int number) {
        return ReferenceAnalyzer.maskOf(situation(number).triggered());
    }

    int after(int number, int rule) {
        situation(number);
        needRule(rule);
        return plain.after(number, rule);
    }

    boolean terminates() {
        needExplored();
        return plain.terminates();
    }

    int endCount() {
        needExplored();
        return plain.ends().size();
    }

    int end(int index) {
        needExplored();
        List<Integer> ends = plain.ends();
        needIndex(index, ends.size());
        return ends.get(index);
    }

    int shortest() {
        needExplored();
        return plain.shortest();
    }

    int longest() {
        needExplored();
        return plain.longest();
    }

    long ways() {
        needExplored();
        return plain.ways();
    }

    boolean isPlayed(int rule) {
        needExplored();
        needRule(rule);
        return plain.isPlayed(rule);
    }

    double choice() {
        needExplored();
        return plain.choice();
    }

    int canTrigger(int rule) {
        needRule(rule);
        return plain.canTrigger(rule);
    }

    int circular() {
        return plain.circular();
    }

    boolean commute(int a, int b) {
        needRule(a);
        needRule(b);
        if (a == b) {
            throw new IllegalArgumentException();
        }
        return plain.commute(a, b);
    }

    int conflictCount() {
        return plain.conflicts().size();
    }

    int conflict(int index) {
        List<Integer> conflicts = plain.conflicts();
        needIndex(index, conflicts.size());
        return conflicts.get(index);
    }

    long digest() {
        return plain.digest();
    }

    /** How many situations can be asked for, so that a test can ask for the last one and the one behind it. */
    int askable() {
        return plain.explored() ? plain.explored.list.size() : 0;
    }
}
