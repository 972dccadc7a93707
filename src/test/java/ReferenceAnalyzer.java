import java.math.BigInteger;
import java.util.ArrayList;
import java.util.HashMap;
import java.util.List;
import java.util.Map;
import java.util.TreeSet;

/**
 * The document's words once more, in the plainest form and by other means than the class: sets,
 * maps and searches by recursion. It counts on right arguments, but for what explored() guards.
 */
final class ReferenceAnalyzer {
    record Change(int fact, boolean isSet) {
    }

    record Situation(TreeSet<Integer> facts, TreeSet<Integer> triggered) {
        Situation copy() {
            return new Situation(new TreeSet<>(facts), new TreeSet<>(triggered));
        }
    }

    static final class Rule {
        Change event;
        TreeSet<Integer> must = new TreeSet<>();
        TreeSet<Integer> mustNot = new TreeSet<>();
        List<Change> actions = new ArrayList<>();
        TreeSet<Integer> rankedAbove = new TreeSet<>();
        boolean on = true;
    }

    static final class Explored {
        List<Situation> list = new ArrayList<>();
        Map<Situation, Integer> numbers = new HashMap<>();
        List<Map<Integer, Integer>> next = new ArrayList<>();
        boolean tooMany;
    }

    final List<Rule> rules = new ArrayList<>();
    Situation present = new Situation(new TreeSet<>(), new TreeSet<>());
    Explored explored;

    static TreeSet<Integer> setOf(int mask) {
        TreeSet<Integer> set = new TreeSet<>();
        for (int k = 0; k < 31; k++) {
            if ((mask >> k & 1) == 1) {
                set.add(k);
            }
        }
        return set;
    }

    static int maskOf(Iterable<Integer> set) {
        int mask = 0;
        for (int k : set) {
            mask += 1 << k;
        }
        return mask;
    }

    int addRule(int fact, boolean isSet, int must, int mustNot) {
        explored = null;
        Rule rule = new Rule();
        rule.event = new Change(fact, isSet);
        rule.must = setOf(must);
        rule.mustNot = setOf(mustNot);
        rules.add(rule);
        return rules.size() - 1;
    }

    int addAction(int rule, int fact, boolean isSet) {
        explored = null;
        rules.get(rule).actions.add(new Change(fact, isSet));
        return rules.get(rule).actions.size();
    }

    boolean turn(int rule, boolean isOn) {
        explored = null;
        boolean was = rules.get(rule).on;
        rules.get(rule).on = isOn;
        if (!isOn) {
            present.triggered().remove(rule);
        }
        return was;
    }

    boolean isAbove(int a, int b) {
        return isAbove(a, b, rules.size());
    }

    private boolean isAbove(int a, int b, int depth) {
        if (depth == 0) {
            return false;
        }
        for (int c : rules.get(a).rankedAbove) {
            if (c == b || isAbove(c, b, depth - 1)) {
                return true;
            }
        }
        return false;
    }

    boolean rank(int high, int low) {
        explored = null;
        boolean isNew = !isAbove(high, low);
        rules.get(high).rankedAbove.add(low);
        return isNew;
    }

    int put(int facts) {
        explored = null;
        int before = maskOf(present.facts());
        present = new Situation(setOf(facts), new TreeSet<>());
        return before;
    }

    int change(int fact, boolean isSet) {
        explored = null;
        apply(present, new Change(fact, isSet));
        return maskOf(present.triggered());
    }

    private void apply(Situation s, Change change) {
        boolean changed = change.isSet() ? s.facts().add(change.fact()) : s.facts().remove(change.fact());
        if (!changed) {
            return;
        }
        for (int r = 0; r < rules.size(); r++) {
            if (rules.get(r).on && rules.get(r).event.equals(change)) {
                s.triggered().add(r);
            }
        }
    }

    List<Integer> readyIn(Situation s) {
        List<Integer> ready = new ArrayList<>();
        for (int r : s.triggered()) {
            boolean isReady = true;
            for (int other : s.triggered()) {
                if (isAbove(other, r)) {
                    isReady = false;
                }
            }
            if (isReady) {
                ready.add(r);
            }
        }
        return ready;
    }

    int ready() {
        return maskOf(readyIn(present));
    }

    private boolean holds(Situation s, Rule rule) {
        for (int f : rule.mustNot) {
            if (s.facts().contains(f)) {
                return false;
            }
        }
        return s.facts().containsAll(rule.must);
    }

    private boolean playIn(Situation s, int rule) {
        s.triggered().remove(rule);
        if (!holds(s, rules.get(rule))) {
            return false;
        }
        for (Change action : rules.get(rule).actions) {
            apply(s, action);
        }
        return true;
    }

    boolean play(int rule) {
        explored = null;
        return playIn(present, rule);
    }

    int run(int most) {
        explored = null;
        int plays = 0;
        while (plays < most && !present.triggered().isEmpty()) {
            playIn(present, readyIn(present).get(0));
            plays++;
        }
        return plays;
    }

    int explore() {
        return explore(1000);
    }

    int explore(int limit) {
        if (explored == null) {
            explored = new Explored();
            find(present.copy());
            for (int i = 0; i < explored.list.size() && !explored.tooMany; i++) {
                Map<Integer, Integer> next = new HashMap<>();
                for (int r : readyIn(explored.list.get(i))) {
                    Situation s = explored.list.get(i).copy();
                    playIn(s, r);
                    next.put(r, find(s));
                }
                explored.next.add(next);
                explored.tooMany = explored.list.size() > limit;
            }
        }
        return explored.tooMany ? -1 : explored.list.size();
    }

    private int find(Situation s) {
        Integer number = explored.numbers.get(s);
        if (number == null) {
            number = explored.list.size();
            explored.numbers.put(s, number);
            explored.list.add(s);
        }
        return number;
    }

    /** Whether the calls that need an exploration may be made. */
    boolean explored() {
        return explored != null && !explored.tooMany;
    }

    int after(int number, int rule) {
        return explored.next.get(number).getOrDefault(rule, -1);
    }

    /** A situation lies on a circle if it can be reached from one of those that follow it. */
    boolean terminates() {
        for (int start = 0; start < explored.list.size(); start++) {
            TreeSet<Integer> seen = new TreeSet<>();
            List<Integer> open = new ArrayList<>(explored.next.get(start).values());
            while (!open.isEmpty()) {
                int s = open.remove(open.size() - 1);
                if (s == start) {
                    return false;
                }
                if (seen.add(s)) {
                    open.addAll(explored.next.get(s).values());
                }
            }
        }
        return true;
    }

    List<Integer> ends() {
        List<Integer> ends = new ArrayList<>();
        for (Situation s : explored.list) {
            if (s.triggered().isEmpty()) {
                ends.add(maskOf(s.facts()));
            }
        }
        return ends;
    }

    /** Widens the set of situations that lie so many plays away, until an end is in it. */
    int shortest() {
        TreeSet<Integer> level = new TreeSet<>();
        level.add(0);
        for (int plays = 0; plays <= explored.list.size(); plays++) {
            TreeSet<Integer> following = new TreeSet<>();
            for (int s : level) {
                if (explored.list.get(s).triggered().isEmpty()) {
                    return plays;
                }
                following.addAll(explored.next.get(s).values());
            }
            level = following;
        }
        return -1;
    }

    int longest() {
        return terminates() ? longestFrom(0, new HashMap<>()) : -1;
    }

    private int longestFrom(int s, Map<Integer, Integer> known) {
        if (!known.containsKey(s)) {
            int most = 0;
            for (int next : explored.next.get(s).values()) {
                most = Math.max(most, 1 + longestFrom(next, known));
            }
            known.put(s, most);
        }
        return known.get(s);
    }

    long ways() {
        return terminates() ? exactWays().longValue() : -1;
    }

    /** The number of ways as it is before it wraps around, if playing comes to an end. */
    BigInteger exactWays() {
        return waysFrom(0, new HashMap<>());
    }

    private BigInteger waysFrom(int s, Map<Integer, BigInteger> known) {
        if (!known.containsKey(s)) {
            BigInteger sum = explored.list.get(s).triggered().isEmpty() ? BigInteger.ONE : BigInteger.ZERO;
            for (int next : explored.next.get(s).values()) {
                sum = sum.add(waysFrom(next, known));
            }
            known.put(s, sum);
        }
        return known.get(s);
    }

    boolean isPlayed(int rule) {
        for (Map<Integer, Integer> next : explored.next) {
            if (next.containsKey(rule)) {
                return true;
            }
        }
        return false;
    }

    double choice() {
        int choices = 0;
        for (Map<Integer, Integer> next : explored.next) {
            if (next.size() >= 2) {
                choices++;
            }
        }
        return (double) choices / explored.list.size();
    }

    boolean canTrigger(int a, int b) {
        return rules.get(a).on && rules.get(b).on && rules.get(a).actions.contains(rules.get(b).event);
    }

    int canTrigger(int a) {
        TreeSet<Integer> set = new TreeSet<>();
        for (int b = 0; b < rules.size(); b++) {
            if (canTrigger(a, b)) {
                set.add(b);
            }
        }
        return maskOf(set);
    }

    int circular() {
        TreeSet<Integer> set = new TreeSet<>();
        for (int a = 0; a < rules.size(); a++) {
            TreeSet<Integer> seen = new TreeSet<>();
            reachFrom(a, seen);
            if (seen.contains(a)) {
                set.add(a);
            }
        }
        return maskOf(set);
    }

    private void reachFrom(int a, TreeSet<Integer> seen) {
        for (int b = 0; b < rules.size(); b++) {
            if (canTrigger(a, b) && seen.add(b)) {
                reachFrom(b, seen);
            }
        }
    }

    boolean commute(int a, int b) {
        Rule one = rules.get(a);
        Rule other = rules.get(b);
        if (!one.on || !other.on) {
            return true;
        }
        if (canTrigger(a, b) || canTrigger(b, a) || canTrigger(a, a) || canTrigger(b, b)) {
            return false;
        }
        if (disturbs(one, other) || disturbs(other, one)) {
            return false;
        }
        for (Change x : one.actions) {
            for (Change y : other.actions) {
                if (x.fact() == y.fact() && x.isSet() != y.isSet()) {
                    return false;
                }
            }
        }
        return true;
    }

    private static boolean disturbs(Rule one, Rule other) {
        for (Change action : one.actions) {
            if (other.must.contains(action.fact()) || other.mustNot.contains(action.fact())) {
                return true;
            }
        }
        return false;
    }

    List<Integer> conflicts() {
        List<Integer> conflicts = new ArrayList<>();
        for (int a = 0; a < rules.size(); a++) {
            for (int b = a + 1; b < rules.size(); b++) {
                if (!commute(a, b) && !isAbove(a, b) && !isAbove(b, a)) {
                    conflicts.add(10 * a + b);
                }
            }
        }
        return conflicts;
    }

    long digest() {
        List<Integer> row = new ArrayList<>();
        row.add(rules.size());
        for (int r = 0; r < rules.size(); r++) {
            Rule rule = rules.get(r);
            row.add(2 * rule.event.fact() + (rule.event.isSet() ? 1 : 0));
            row.add(maskOf(rule.must));
            row.add(maskOf(rule.mustNot));
            row.add(rule.actions.size());
            for (Change action : rule.actions) {
                row.add(2 * action.fact() + (action.isSet() ? 1 : 0));
            }
            row.add(rule.on ? 1 : 0);
            int below = 0;
            for (int b = 0; b < rules.size(); b++) {
                below += isAbove(r, b) ? 1 << b : 0;
            }
            row.add(below);
        }
        row.add(maskOf(present.facts()));
        row.add(maskOf(present.triggered()));
        if (explored != null) {
            row.add(explored.tooMany ? -1 : explored.list.size());
        }
        long d = 157;
        for (int x : row) {
            d = d * 31 + x;
        }
        return d;
    }
}
