/**
 * An analyzer for active rules, which act by themselves when facts change: it plays them,
 * explores all orders in which they can act, and judges them by what they say alone.
 * The methods bear no comments, because DOC.md promises what each of them does and throws.
 */
public final class TriggerAnalyzer {
    private static final int FACT_COUNT = 6;
    private static final int ALL_FACTS = 63;
    private static final int EVENT_COUNT = 12;
    private static final int MOST_RULES = 8;
    private static final int MOST_ACTIONS = 4;
    private static final int MOST_PLAYS = 500;
    private static final int MOST_SITUATIONS = 1000;
    private static final int POSSIBLE_SITUATIONS = 16384;
    private static final int MOST_ENDS = 64;
    private static final int NONE = -1;

    private final RuleBook book = new RuleBook();
    private final Judge judge = new Judge(book);
    private final Exploration exploration = new Exploration(book);
    private int present;

    public TriggerAnalyzer() {
    }

    public int addRule(int fact, boolean isSet, int must, int mustNot)
            throws IndexOutOfBoundsException, IllegalArgumentException, IllegalStateException {
        needFact(fact);
        needFactSet(must);
        needFactSet(mustNot);
        if (book.isFull()) {
            throw new IllegalStateException("there are 8 rules");
        }
        exploration.forget();
        return book.append(changeCode(fact, isSet), must, mustNot);
    }

    public int addAction(int rule, int fact, boolean isSet)
            throws IndexOutOfBoundsException, IllegalStateException {
        Rule acting = ruleAt(rule);
        needFact(fact);
        if (acting.isFull()) {
            throw new IllegalStateException("the rule has 4 actions");
        }
        exploration.forget();
        acting.append(changeCode(fact, isSet));
        return acting.actionCount;
    }

    public boolean turn(int rule, boolean isOn) throws IndexOutOfBoundsException {
        Rule turned = ruleAt(rule);
        boolean wasOn = turned.on;
        exploration.forget();
        book.switchRule(turned, isOn);
        if (!isOn) {
            present = situationOf(factsIn(present), triggeredIn(present) & ~turned.bit);
        }
        return wasOn;
    }

    public boolean rank(int high, int low) throws IndexOutOfBoundsException, IllegalArgumentException {
        Rule upper = ruleAt(high);
        Rule lower = ruleAt(low);
        if (high == low || lower.isOver(upper)) {
            throw new IllegalArgumentException("no rule can be above itself");
        }
        boolean isNew = !upper.isOver(lower);
        exploration.forget();
        book.order(upper, lower);
        return isNew;
    }

    public boolean isAbove(int a, int b) throws IndexOutOfBoundsException {
        Rule upper = ruleAt(a);
        Rule lower = ruleAt(b);
        return upper.isOver(lower);
    }

    public int ruleCount() {
        return book.size();
    }

    public int put(int facts) throws IllegalArgumentException {
        needFactSet(facts);
        int before = factsIn(present);
        exploration.forget();
        present = situationOf(facts, 0);
        return before;
    }

    public int change(int fact, boolean isSet) throws IndexOutOfBoundsException {
        needFact(fact);
        exploration.forget();
        present = book.changed(present, changeCode(fact, isSet));
        return triggeredIn(present);
    }

    public int facts() {
        return factsIn(present);
    }

    public int triggered() {
        return triggeredIn(present);
    }

    public int ready() {
        return book.readyIn(present);
    }

    public boolean play(int rule) throws IndexOutOfBoundsException, IllegalStateException {
        Rule playing = ruleAt(rule);
        if (!playing.isReadyIn(present)) {
            throw new IllegalStateException("the rule is not ready");
        }
        boolean acts = playing.holdsIn(present);
        exploration.forget();
        present = book.played(present, playing);
        return acts;
    }

    public int run(int most) throws IllegalArgumentException {
        if (most < 0 || most > MOST_PLAYS) {
            throw new IllegalArgumentException("most is not 0 to 500");
        }
        exploration.forget();
        for (int plays = 0; plays < most; plays++) {
            Rule first = book.firstReadyIn(present);
            if (first == null) {
                return plays;
            }
            present = book.played(present, first);
        }
        return most;
    }

    public int explore() {
        if (!exploration.isDone()) {
            exploration.search(present);
        }
        return exploration.answer();
    }

    public int factsOf(int number) throws IllegalStateException, IndexOutOfBoundsException {
        return factsIn(exploredAt(number));
    }

    public int triggeredOf(int number) throws IllegalStateException, IndexOutOfBoundsException {
        return triggeredIn(exploredAt(number));
    }

    public int after(int number, int rule) throws IllegalStateException, IndexOutOfBoundsException {
        exploredAt(number);
        ruleAt(rule);
        return exploration.nextOf(number, rule);
    }

    public boolean terminates() throws IllegalStateException {
        needExplored();
        return exploration.prospect.isFinite();
    }

    public int endCount() throws IllegalStateException {
        needExplored();
        return exploration.ends.size();
    }

    public int end(int index) throws IllegalStateException, IndexOutOfBoundsException {
        needExplored();
        int facts = exploration.ends.factsAt(index);
        if (facts == NONE) {
            throw new IndexOutOfBoundsException("no such end");
        }
        return facts;
    }

    public int shortest() throws IllegalStateException {
        needExplored();
        return exploration.ends.firstDepth();
    }

    public int longest() throws IllegalStateException {
        needExplored();
        return exploration.prospect.mostPlays();
    }

    public long ways() throws IllegalStateException {
        needExplored();
        return exploration.prospect.wayCount();
    }

    public boolean isPlayed(int rule) throws IllegalStateException, IndexOutOfBoundsException {
        needExplored();
        return (exploration.everReady() & ruleAt(rule).bit) != 0;
    }

    public double choice() throws IllegalStateException {
        needExplored();
        return exploration.choiceShare();
    }

    public int canTrigger(int rule) throws IndexOutOfBoundsException {
        return book.triggerableBy(ruleAt(rule));
    }

    public int circular() {
        return judge.inCircles();
    }

    public boolean commute(int a, int b) throws IndexOutOfBoundsException, IllegalArgumentException {
        Rule one = ruleAt(a);
        Rule other = ruleAt(b);
        if (a == b) {
            throw new IllegalArgumentException("they are the same rule");
        }
        return judge.areIndependent(one, other);
    }

    public int conflictCount() {
        return judge.countConflicts();
    }

    public int conflict(int index) throws IndexOutOfBoundsException {
        int pair = judge.conflictAt(index);
        if (pair == NONE) {
            throw new IndexOutOfBoundsException("no such conflict");
        }
        return pair;
    }

    public long digest() {
        long sum = book.addedTo(157L);
        sum = sum * 31 + factsIn(present);
        sum = sum * 31 + triggeredIn(present);
        if (exploration.isDone()) {
            sum = sum * 31 + exploration.answer();
        }
        return sum;
    }

    private Rule ruleAt(int number) {
        Rule rule = book.ruleOrNull(number);
        if (rule == null) {
            throw new IndexOutOfBoundsException("no such rule");
        }
        return rule;
    }

    private int exploredAt(int number) {
        needExplored();
        int situation = exploration.situationAt(number);
        if (situation == NONE) {
            throw new IndexOutOfBoundsException("no such situation");
        }
        return situation;
    }

    private void needExplored() {
        if (!exploration.isUsable()) {
            throw new IllegalStateException("nothing is explored, or too many situations");
        }
    }

    private static void needFact(int fact) {
        if (fact < 0 || fact >= FACT_COUNT) {
            throw new IndexOutOfBoundsException("no such fact");
        }
    }

    private static void needFactSet(int facts) {
        if (facts < 0 || facts > ALL_FACTS) {
            throw new IllegalArgumentException("not a set of facts");
        }
    }

    /** Events and actions share this code, so that an action is an event if the codes are equal. */
    private static int changeCode(int fact, boolean isSet) {
        return 2 * fact + (isSet ? 1 : 0);
    }

    /** A situation is held as one number, so that it can be looked up in a table. */
    private static int situationOf(int facts, int triggered) {
        return triggered << FACT_COUNT | facts;
    }

    private static int factsIn(int situation) {
        return situation & ALL_FACTS;
    }

    private static int triggeredIn(int situation) {
        return situation >> FACT_COUNT;
    }

    /** A rule; one that was not added yet is off and has no actions, so it never takes part. */
    private static final class Rule {
        final int bit;
        private final int[] actions = new int[MOST_ACTIONS];
        int event;
        int must;
        int mustNot;
        boolean on;
        int actionCount;
        int setFacts;
        int unsetFacts;
        int below;
        int above;

        Rule(int bit) {
            this.bit = bit;
        }

        boolean isFull() {
            return actionCount >= actions.length;
        }

        void append(int action) {
            if (actionCount < 0 || actionCount >= actions.length) {
                return;
            }
            actions[actionCount] = action;
            actionCount++;
            int factBit = 1 << (action >> 1);
            if ((action & 1) == 1) {
                setFacts |= factBit;
            } else {
                unsetFacts |= factBit;
            }
        }

        int actionAt(int index) {
            return index >= 0 && index < actions.length ? actions[index] : 0;
        }

        boolean isOver(Rule other) {
            return (below & other.bit) != 0;
        }

        boolean isReadyIn(int situation) {
            int triggered = triggeredIn(situation);
            return (triggered & bit) != 0 && (triggered & above) == 0;
        }

        boolean holdsIn(int situation) {
            int facts = factsIn(situation);
            return (facts & must) == must && (facts & mustNot) == 0;
        }

        int changedFacts() {
            return setFacts | unsetFacts;
        }

        int conditionFacts() {
            return must | mustNot;
        }

        long addedTo(long sum) {
            long d = sum * 31 + event;
            d = d * 31 + must;
            d = d * 31 + mustNot;
            d = d * 31 + actionCount;
            for (int i = 0; i < actionCount; i++) {
                d = d * 31 + actionAt(i);
            }
            d = d * 31 + (on ? 1 : 0);
            return d * 31 + below;
        }
    }

    /** The rules, the order between them, and what playing them does to a situation. */
    private static final class RuleBook {
        private final Rule[] rules = new Rule[MOST_RULES];
        /** For each event the rules that are on and have it. */
        private final int[] listeners = new int[EVENT_COUNT];
        private int count;

        RuleBook() {
            for (int i = 0; i < rules.length; i++) {
                rules[i] = new Rule(1 << i);
            }
        }

        int size() {
            return count;
        }

        boolean isFull() {
            return count >= rules.length;
        }

        Rule ruleOrNull(int number) {
            return number >= 0 && number < count && number < rules.length ? rules[number] : null;
        }

        int append(int event, int must, int mustNot) {
            int number = count;
            if (number < 0 || number >= rules.length) {
                return NONE;
            }
            count++;
            Rule rule = rules[number];
            rule.event = event;
            rule.must = must;
            rule.mustNot = mustNot;
            switchRule(rule, true);
            return number;
        }

        void switchRule(Rule rule, boolean isOn) {
            rule.on = isOn;
            int event = rule.event;
            if (event < 0 || event >= listeners.length) {
                return;
            }
            if (isOn) {
                listeners[event] |= rule.bit;
            } else {
                listeners[event] &= ~rule.bit;
            }
        }

        int listenersTo(int event) {
            return event >= 0 && event < listeners.length ? listeners[event] : 0;
        }

        /** Keeps the order closed: what is above the higher rule comes above all below the lower one. */
        void order(Rule high, Rule low) {
            int uppers = high.above | high.bit;
            int lowers = low.below | low.bit;
            for (int i = 0; i < rules.length; i++) {
                Rule rule = rules[i];
                if ((uppers & rule.bit) != 0) {
                    rule.below |= lowers;
                }
                if ((lowers & rule.bit) != 0) {
                    rule.above |= uppers;
                }
            }
        }

        int changed(int situation, int action) {
            int factBit = 1 << (action >> 1);
            boolean sets = (action & 1) == 1;
            boolean isSet = (situation & factBit) != 0;
            if (sets == isSet) {
                return situation;
            }
            int triggered = triggeredIn(situation) | listenersTo(action);
            return situationOf(factsIn(situation) ^ factBit, triggered);
        }

        int readyIn(int situation) {
            int ready = 0;
            for (int i = 0; i < rules.length; i++) {
                if (rules[i].isReadyIn(situation)) {
                    ready |= rules[i].bit;
                }
            }
            return ready;
        }

        Rule firstReadyIn(int situation) {
            for (int i = 0; i < rules.length; i++) {
                if (rules[i].isReadyIn(situation)) {
                    return rules[i];
                }
            }
            return null;
        }

        int played(int situation, Rule rule) {
            int now = situationOf(factsIn(situation), triggeredIn(situation) & ~rule.bit);
            if (!rule.holdsIn(now)) {
                return now;
            }
            for (int i = 0; i < rule.actionCount; i++) {
                now = changed(now, rule.actionAt(i));
            }
            return now;
        }

        int triggerableBy(Rule rule) {
            int found = 0;
            if (rule.on) {
                for (int i = 0; i < rule.actionCount; i++) {
                    found |= listenersTo(rule.actionAt(i));
                }
            }
            return found;
        }

        long addedTo(long sum) {
            long d = sum * 31 + count;
            for (int i = 0; i < count && i < rules.length; i++) {
                d = rules[i].addedTo(d);
            }
            return d;
        }
    }

    /** Tells from the rules alone how they can act on each other. */
    private static final class Judge {
        private final RuleBook book;
        private final int[] reach = new int[MOST_RULES];

        Judge(RuleBook book) {
            this.book = book;
        }

        int inCircles() {
            spreadReach();
            int circling = 0;
            for (int i = 0; i < reach.length; i++) {
                circling |= reach[i] & 1 << i;
            }
            return circling;
        }

        /** Warshall's closure: after step k all ways by way of rules up to k are in. */
        private void spreadReach() {
            for (int i = 0; i < reach.length; i++) {
                Rule rule = book.ruleOrNull(i);
                reach[i] = rule == null ? 0 : book.triggerableBy(rule);
            }
            for (int k = 0; k < reach.length; k++) {
                for (int i = 0; i < reach.length; i++) {
                    if ((reach[i] & 1 << k) != 0) {
                        reach[i] |= reach[k];
                    }
                }
            }
        }

        boolean areIndependent(Rule a, Rule b) {
            if (!a.on || !b.on) {
                return true;
            }
            int triggerable = book.triggerableBy(a) | book.triggerableBy(b);
            if ((triggerable & (a.bit | b.bit)) != 0) {
                return false;
            }
            if ((a.changedFacts() & b.conditionFacts()) != 0 || (b.changedFacts() & a.conditionFacts()) != 0) {
                return false;
            }
            return (a.setFacts & b.unsetFacts) == 0 && (a.unsetFacts & b.setFacts) == 0;
        }

        private boolean areInConflict(int a, int b) {
            Rule one = book.ruleOrNull(a);
            Rule other = book.ruleOrNull(b);
            if (one == null || other == null || one.isOver(other) || other.isOver(one)) {
                return false;
            }
            return !areIndependent(one, other);
        }

        int countConflicts() {
            int conflicts = 0;
            for (int a = 0; a < MOST_RULES; a++) {
                for (int b = a + 1; b < MOST_RULES; b++) {
                    if (areInConflict(a, b)) {
                        conflicts++;
                    }
                }
            }
            return conflicts;
        }

        int conflictAt(int index) {
            int passed = 0;
            for (int a = 0; a < MOST_RULES; a++) {
                for (int b = a + 1; b < MOST_RULES; b++) {
                    if (areInConflict(a, b)) {
                        if (passed == index) {
                            return 10 * a + b;
                        }
                        passed++;
                    }
                }
            }
            return NONE;
        }
    }

    /** The situations to which playing can lead, in the order in which they are found. */
    private static final class Exploration {
        private final RuleBook book;
        private final int[] situations = new int[MOST_SITUATIONS];
        private final int[] depths = new int[MOST_SITUATIONS];
        private final int[] nexts = new int[MOST_SITUATIONS * MOST_RULES];
        /** For each possible situation its number plus 1, or 0 if it is not found. */
        private final int[] places = new int[POSSIBLE_SITUATIONS];
        final Ends ends = new Ends();
        final Prospect prospect = new Prospect();
        private int count;
        private boolean done;
        private boolean tooMany;
        private int readyEver;
        private int choices;

        Exploration(RuleBook book) {
            this.book = book;
        }

        boolean isDone() {
            return done;
        }

        boolean isUsable() {
            return done && !tooMany;
        }

        int answer() {
            return tooMany ? NONE : count;
        }

        int size() {
            return count;
        }

        int everReady() {
            return readyEver;
        }

        double choiceShare() {
            return count > 0 ? (double) choices / count : 0.0;
        }

        void forget() {
            done = false;
        }

        int situationAt(int number) {
            return number >= 0 && number < count && number < MOST_SITUATIONS ? situations[number] : NONE;
        }

        int nextOf(int number, int rule) {
            if (number < 0 || number >= count || rule < 0 || rule >= MOST_RULES) {
                return NONE;
            }
            int index = number * MOST_RULES + rule;
            return index >= 0 && index < nexts.length ? nexts[index] : NONE;
        }

        void search(int first) {
            clear();
            findOrAdd(first, 0);
            for (int from = 0; from < count && from < MOST_SITUATIONS && !tooMany; from++) {
                expand(from);
            }
            if (!tooMany) {
                prospect.study(this);
            }
            done = true;
        }

        /** Takes only the last exploration's marks out of the table, which is far larger. */
        private void clear() {
            for (int i = 0; i < count && i < MOST_SITUATIONS; i++) {
                mark(situations[i], 0);
            }
            count = 0;
            tooMany = false;
            readyEver = 0;
            choices = 0;
            ends.clear();
        }

        private void mark(int situation, int place) {
            if (situation >= 0 && situation < places.length) {
                places[situation] = place;
            }
        }

        private int findOrAdd(int situation, int depth) {
            if (situation < 0 || situation >= places.length) {
                return NONE;
            }
            if (places[situation] > 0) {
                return places[situation] - 1;
            }
            if (count < 0 || count >= MOST_SITUATIONS) {
                tooMany = true;
                return NONE;
            }
            situations[count] = situation;
            depths[count] = depth;
            count++;
            places[situation] = count;
            return count - 1;
        }

        private void expand(int from) {
            if (from < 0 || from >= MOST_SITUATIONS) {
                return;
            }
            int situation = situations[from];
            int ready = book.readyIn(situation);
            readyEver |= ready;
            if (Integer.bitCount(ready) > 1) {
                choices++;
            }
            if (triggeredIn(situation) == 0) {
                ends.append(factsIn(situation), depths[from]);
            }
            for (int i = 0; i < MOST_RULES; i++) {
                Rule rule = book.ruleOrNull(i);
                int next = NONE;
                if (rule != null && (ready & rule.bit) != 0) {
                    next = findOrAdd(book.played(situation, rule), depths[from] + 1);
                }
                keepNext(from * MOST_RULES + i, next);
            }
        }

        private void keepNext(int index, int next) {
            if (index >= 0 && index < nexts.length) {
                nexts[index] = next;
            }
        }
    }

    /** The situations in which no rule is triggered, the nearest of them first. */
    private static final class Ends {
        private final int[] facts = new int[MOST_ENDS];
        private int count;
        private int nearest = NONE;

        Ends() {
        }

        void clear() {
            count = 0;
            nearest = NONE;
        }

        int size() {
            return count;
        }

        int firstDepth() {
            return nearest;
        }

        int factsAt(int index) {
            return index >= 0 && index < count && index < facts.length ? facts[index] : NONE;
        }

        void append(int factSet, int depth) {
            if (count < 0 || count >= facts.length) {
                return;
            }
            if (count == 0) {
                nearest = depth;
            }
            facts[count] = factSet;
            count++;
        }
    }

    /** Whether the explored situations hold a circle, and if not, how playing through them can go. */
    private static final class Prospect {
        private final int[] incoming = new int[MOST_SITUATIONS];
        private final int[] plays = new int[MOST_SITUATIONS];
        private final long[] rows = new long[MOST_SITUATIONS];
        private final int[] queue = new int[MOST_SITUATIONS];
        private int queued;
        private boolean finite;
        private int longestRow;
        private long endedRows;

        Prospect() {
        }

        boolean isFinite() {
            return finite;
        }

        int mostPlays() {
            return finite ? longestRow : NONE;
        }

        long wayCount() {
            return finite ? endedRows : NONE;
        }

        /**
         * Takes each situation after all those that lead to it; a circle, and what comes
         * behind it, is never taken.
         */
        void study(Exploration exploration) {
            countIncoming(exploration);
            startAtFirst();
            int taken = 0;
            while (taken < queued && taken < MOST_SITUATIONS) {
                take(exploration, queue[taken]);
                taken++;
            }
            finite = taken == exploration.size();
        }

        private void countIncoming(Exploration exploration) {
            for (int i = 0; i < exploration.size() && i < MOST_SITUATIONS; i++) {
                incoming[i] = 0;
                plays[i] = 0;
                rows[i] = 0;
            }
            for (int from = 0; from < exploration.size() && from < MOST_SITUATIONS; from++) {
                for (int rule = 0; rule < MOST_RULES; rule++) {
                    int to = exploration.nextOf(from, rule);
                    if (to >= 0 && to < MOST_SITUATIONS) {
                        incoming[to]++;
                    }
                }
            }
        }

        /** No other situation can begin the queue, for each of them was found from an earlier one. */
        private void startAtFirst() {
            queued = 0;
            longestRow = 0;
            endedRows = 0;
            rows[0] = 1;
            if (incoming[0] == 0) {
                enqueue(0);
            }
        }

        private void enqueue(int number) {
            if (queued >= 0 && queued < MOST_SITUATIONS) {
                queue[queued] = number;
                queued++;
            }
        }

        private void take(Exploration exploration, int from) {
            if (from < 0 || from >= MOST_SITUATIONS) {
                return;
            }
            boolean isEnd = true;
            for (int rule = 0; rule < MOST_RULES; rule++) {
                int to = exploration.nextOf(from, rule);
                if (to != NONE) {
                    isEnd = false;
                    lead(to, plays[from] + 1, rows[from]);
                }
            }
            if (isEnd) {
                longestRow = Math.max(longestRow, plays[from]);
                endedRows += rows[from];
            }
        }

        private void lead(int to, int playsUntil, long rowsUntil) {
            if (to < 0 || to >= MOST_SITUATIONS) {
                return;
            }
            plays[to] = Math.max(plays[to], playsUntil);
            rows[to] += rowsUntil;
            incoming[to]--;
            if (incoming[to] == 0) {
                enqueue(to);
            }
        }
    }
}
