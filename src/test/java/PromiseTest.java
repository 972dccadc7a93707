import java.math.BigInteger;

/** A test for each promise of the document: ordinary inputs, the edges it names, and wrong inputs. */
public final class PromiseTest {
    private static final String INDEX = "IndexOutOfBoundsException";
    private static final String ARGUMENT = "IllegalArgumentException";
    private static final String STATE = "IllegalStateException";
    private static final int[] NO_NUMBERS = {-1, 8, 9, 31, 32, 64, Integer.MAX_VALUE, Integer.MIN_VALUE};
    private static final int[] NO_FACTS = {-1, 6, 7, 32, Integer.MAX_VALUE, Integer.MIN_VALUE};
    private static final int[] NO_FACT_SETS = {-1, 64, 65, Integer.MAX_VALUE, Integer.MIN_VALUE};

    private static int wrong;

    private interface Call {
        void make();
    }

    public static void main(String[] args) {
        newObject();
        addRule();
        addAction();
        turn();
        rank();
        isAbove();
        ruleCount();
        put();
        change();
        facts();
        triggered();
        ready();
        play();
        run();
        explore();
        exploreLimit();
        exploreIsKept();
        needExploration();
        factsOfAndTriggeredOf();
        after();
        terminates();
        ends();
        shortest();
        longest();
        ways();
        isPlayed();
        choice();
        canTrigger();
        circular();
        commute();
        conflicts();
        digest();
        digestOfExplored();
        throwsChangeNothing();
        System.out.println(wrong == 0 ? "all promises hold" : wrong + " answers are wrong");
        System.exit(wrong == 0 ? 0 : 1);
    }

    private static void same(String what, long got, long want) {
        if (got != want) {
            wrong++;
            System.out.println(what + ": answered " + got + ", due is " + want);
        }
    }

    private static void sameShare(String what, double got, double want) {
        same(what, Double.doubleToLongBits(got), Double.doubleToLongBits(want));
    }

    private static void yes(String what, boolean got) {
        same(what, got ? 1 : 0, 1);
    }

    private static void no(String what, boolean got) {
        same(what, got ? 1 : 0, 0);
    }

    private static void refused(String what, String name, Call call) {
        String thrown = "nothing";
        try {
            call.make();
        } catch (RuntimeException e) {
            thrown = e.getClass().getSimpleName();
        }
        if (!thrown.equals(name)) {
            wrong++;
            System.out.println(what + ": threw " + thrown + ", due is " + name);
        }
    }

    private static void newObject() {
        TriggerAnalyzer x = new TriggerAnalyzer();
        same("new: ruleCount", x.ruleCount(), 0);
        same("new: facts", x.facts(), 0);
        same("new: triggered", x.triggered(), 0);
        same("new: ready", x.ready(), 0);
        same("new: circular", x.circular(), 0);
        same("new: conflictCount", x.conflictCount(), 0);
        same("new: run", x.run(500), 0);
        same("new: explore", x.explore(), 1);
        same("new: digest", new TriggerAnalyzer().digest(), 157L * 31 * 31 * 31);
        refused("new: turn", INDEX, () -> x.turn(0, true));
    }

    private static void addRule() {
        TriggerAnalyzer x = new TriggerAnalyzer();
        for (int i = 0; i < 8; i++) {
            same("addRule: number", x.addRule(i % 6, i % 2 == 0, i == 0 ? 63 : 0, i == 1 ? 63 : 0), i);
        }
        refused("addRule: ninth", STATE, () -> x.addRule(0, true, 0, 0));
        refused("addRule: ninth, wrong fact", INDEX, () -> x.addRule(6, true, 64, 64));
        refused("addRule: ninth, wrong must", ARGUMENT, () -> x.addRule(5, true, 64, 0));
        refused("addRule: ninth, wrong mustNot", ARGUMENT, () -> x.addRule(5, true, 0, -1));
        same("addRule: count", x.ruleCount(), 8);
        TriggerAnalyzer y = new TriggerAnalyzer();
        for (int fact : NO_FACTS) {
            refused("addRule: fact " + fact, INDEX, () -> y.addRule(fact, true, 0, 0));
            refused("addRule: fact " + fact + " first", INDEX, () -> y.addRule(fact, true, -1, 64));
        }
        for (int set : NO_FACT_SETS) {
            refused("addRule: must " + set, ARGUMENT, () -> y.addRule(0, true, set, 0));
            refused("addRule: mustNot " + set, ARGUMENT, () -> y.addRule(0, false, 0, set));
        }
        same("addRule: none added", y.ruleCount(), 0);
    }

    private static void addAction() {
        TriggerAnalyzer x = Programs.withRules(2);
        for (int i = 0; i < 4; i++) {
            same("addAction: count", x.addAction(0, i, true), i + 1);
        }
        same("addAction: other rule", x.addAction(1, 5, false), 1);
        refused("addAction: fifth", STATE, () -> x.addAction(0, 0, true));
        refused("addAction: fifth, wrong fact", INDEX, () -> x.addAction(0, 6, true));
        refused("addAction: rule 2", INDEX, () -> x.addAction(2, 0, true));
        for (int number : NO_NUMBERS) {
            refused("addAction: rule " + number, INDEX, () -> x.addAction(number, 0, true));
        }
        for (int fact : NO_FACTS) {
            refused("addAction: fact " + fact, INDEX, () -> x.addAction(1, fact, true));
        }
        same("addAction: still one", x.addAction(1, 4, true), 2);
    }

    private static void turn() {
        TriggerAnalyzer x = Programs.program(new int[][] {{1, 0, 0}, {1, 0, 0}}, 1);
        same("turn: both triggered", x.triggered(), 3);
        yes("turn: was on", x.turn(0, true));
        same("turn: on leaves it triggered", x.triggered(), 3);
        yes("turn: was on still", x.turn(0, false));
        same("turn: off is triggered no more", x.triggered(), 2);
        same("turn: facts stay", x.facts(), 1);
        no("turn: was off", x.turn(0, false));
        same("turn: off is not triggered", x.put(0) * 100 + x.change(0, true), 102);
        no("turn: was off still", x.turn(0, true));
        same("turn: on alone triggers nothing", x.triggered(), 2);
        x.put(0);
        same("turn: on is triggered", x.change(0, true), 3);
        refused("turn: rule 2", INDEX, () -> x.turn(2, true));
        for (int number : NO_NUMBERS) {
            refused("turn: rule " + number, INDEX, () -> x.turn(number, false));
        }
    }

    private static void rank() {
        TriggerAnalyzer x = Programs.withRules(6);
        yes("rank: new", x.rank(0, 1));
        no("rank: again", x.rank(0, 1));
        yes("rank: next", x.rank(1, 2));
        no("rank: known by way of 1", x.rank(0, 2));
        refused("rank: turned round", ARGUMENT, () -> x.rank(1, 0));
        refused("rank: turned round by way of 1", ARGUMENT, () -> x.rank(2, 0));
        refused("rank: same", ARGUMENT, () -> x.rank(3, 3));
        yes("rank: second chain", x.rank(3, 4) & x.rank(4, 5));
        yes("rank: chains joined", x.rank(2, 3));
        yes("rank: from end to end", x.isAbove(0, 5) && x.isAbove(1, 4) && x.isAbove(2, 3) && x.isAbove(0, 3));
        refused("rank: joined round", ARGUMENT, () -> x.rank(5, 0));
        for (int number : NO_NUMBERS) {
            refused("rank: high " + number, INDEX, () -> x.rank(number, 0));
            refused("rank: low " + number, INDEX, () -> x.rank(0, number));
            refused("rank: same " + number, INDEX, () -> x.rank(number, number));
        }
    }

    private static void isAbove() {
        TriggerAnalyzer x = Programs.withRules(4);
        x.rank(3, 1);
        x.rank(1, 0);
        yes("isAbove: ranked", x.isAbove(3, 1));
        yes("isAbove: by way of 1", x.isAbove(3, 0));
        no("isAbove: below", x.isAbove(1, 3));
        no("isAbove: unranked", x.isAbove(3, 2));
        no("isAbove: itself", x.isAbove(3, 3));
        x.turn(1, false);
        yes("isAbove: by way of one that is off", x.isAbove(3, 0));
        refused("isAbove: 4", INDEX, () -> x.isAbove(0, 4));
        for (int number : NO_NUMBERS) {
            refused("isAbove: a " + number, INDEX, () -> x.isAbove(number, 0));
            refused("isAbove: b " + number, INDEX, () -> x.isAbove(0, number));
        }
    }

    private static void ruleCount() {
        for (int i = 0; i <= 8; i++) {
            same("ruleCount", Programs.withRules(i).ruleCount(), i);
        }
    }

    private static void put() {
        TriggerAnalyzer x = Programs.program(new int[][] {{1, 0, 0}, {0, 0, 0}}, 1);
        same("put: triggered before", x.triggered(), 1);
        same("put: before", x.put(63), 1);
        same("put: nothing triggered", x.triggered(), 0);
        same("put: facts", x.facts(), 63);
        same("put: before, all", x.put(0), 63);
        same("put: unsetting triggers nothing", x.triggered(), 0);
        for (int set : NO_FACT_SETS) {
            refused("put: " + set, ARGUMENT, () -> x.put(set));
        }
        same("put: facts stay", x.facts(), 0);
    }

    private static void change() {
        TriggerAnalyzer x = Programs.program(new int[][] {{1, 0, 0}, {0, 0, 0}, {11, 63, 63}});
        same("change: sets", x.change(0, true), 1);
        same("change: sets again", x.change(0, true), 1);
        same("change: unsets", x.change(0, false), 3);
        same("change: unsets again", x.change(0, false), 3);
        same("change: false conditions are triggered, too", x.change(5, true), 7);
        same("change: fact without rules", x.change(4, true), 7);
        same("change: facts", x.facts(), 48);
        TriggerAnalyzer y = Programs.program(new int[][] {{1, 0, 0}});
        y.put(1);
        same("change: set already", y.change(0, true), 0);
        for (int fact : NO_FACTS) {
            refused("change: " + fact, INDEX, () -> x.change(fact, true));
        }
    }

    private static void facts() {
        TriggerAnalyzer x = new TriggerAnalyzer();
        int set = 0;
        for (int fact = 0; fact < 6; fact++) {
            x.change(fact, true);
            set += 1 << fact;
            same("facts: set", x.facts(), set);
        }
        x.change(3, false);
        same("facts: unset", x.facts(), 55);
        TriggerAnalyzer y = Programs.diamond();
        y.run(500);
        same("facts: played", y.facts(), 5);
    }

    private static void triggered() {
        TriggerAnalyzer x = Programs.withRules(8);
        same("triggered: none", x.triggered(), 0);
        x.change(0, true);
        same("triggered: all", x.triggered(), 255);
        x.play(7);
        same("triggered: one is played", x.triggered(), 127);
        x.addAction(0, 5, true);
        same("triggered: stays with a new action", x.triggered(), 127);
    }

    private static void ready() {
        TriggerAnalyzer x = Programs.withRules(4);
        x.rank(2, 1);
        x.rank(1, 0);
        same("ready: none triggered", x.ready(), 0);
        x.change(0, true);
        same("ready: the highest", x.ready(), 12);
        x.play(2);
        same("ready: the next", x.ready(), 10);
        x.turn(1, false);
        same("ready: above only while triggered", x.ready(), 9);
        TriggerAnalyzer y = Programs.program(new int[][] {{1, 0, 0}, {3, 0, 0}, {1, 0, 0}}, 1);
        y.rank(2, 1);
        y.rank(1, 0);
        same("ready: by way of a rule that is not triggered", y.ready(), 4);
    }

    private static void play() {
        TriggerAnalyzer x = Programs.program(new int[][] {{1, 2, 4, 6, 7, 6}, {7, 0, 0}}, 1);
        no("play: a fact is missing", x.play(0));
        same("play: triggered no more", x.triggered(), 0);
        x.put(6);
        x.change(0, true);
        no("play: a fact is too much", x.play(0));
        same("play: nothing done", x.facts(), 7);
        x.put(2);
        x.change(0, true);
        yes("play: acts", x.play(0));
        same("play: actions are done in order", x.facts(), 3);
        same("play: actions trigger", x.triggered(), 2);
        yes("play: without actions", x.play(1));
        TriggerAnalyzer y = Programs.circle();
        yes("play: triggers itself", y.play(0));
        same("play: is triggered again", y.triggered(), 1);
        TriggerAnalyzer z = Programs.program(new int[][] {{1, 1, 1, 3}}, 1);
        no("play: must and must not", z.play(0));
        refused("play: not triggered", STATE, () -> z.play(0));
        TriggerAnalyzer w = Programs.withRules(2);
        w.rank(1, 0);
        w.change(0, true);
        refused("play: one above is triggered", STATE, () -> w.play(0));
        yes("play: the one above", w.play(1));
        yes("play: then the one below", w.play(0));
        refused("play: rule 2", INDEX, () -> w.play(2));
        for (int number : NO_NUMBERS) {
            refused("play: rule " + number, INDEX, () -> w.play(number));
        }
    }

    private static void run() {
        TriggerAnalyzer x = Programs.diamond();
        same("run: none", x.run(0), 0);
        same("run: still triggered", x.triggered(), 3);
        same("run: one", x.run(1), 1);
        same("run: the smallest number", x.triggered() * 100 + x.facts(), 603);
        same("run: the rest", x.run(500), 2);
        same("run: ended", x.run(500), 0);
        same("run: facts", x.facts(), 5);
        TriggerAnalyzer y = Programs.withRules(3);
        y.rank(2, 0);
        y.change(0, true);
        same("run: two", y.run(2), 2);
        same("run: the smallest that is ready", y.triggered(), 1);
        same("run: a circle", Programs.circle().run(500), 500);
        refused("run: -1", ARGUMENT, () -> x.run(-1));
        refused("run: 501", ARGUMENT, () -> x.run(501));
        refused("run: greatest", ARGUMENT, () -> x.run(Integer.MAX_VALUE));
        refused("run: least", ARGUMENT, () -> x.run(Integer.MIN_VALUE));
    }

    private static void explore() {
        TriggerAnalyzer x = Programs.diamond();
        same("explore: diamond", x.explore(), 8);
        same("explore: again", x.explore(), 8);
        same("explore: leaves the facts", x.facts(), 1);
        same("explore: leaves the triggered", x.triggered(), 3);
        TriggerAnalyzer y = Programs.diamond();
        y.explore();
        same("explore: the order of finding", y.after(0, 0) * 10 + y.after(0, 1), 12);
        same("explore: an end alone", new TriggerAnalyzer().explore(), 1);
        same("explore: a circle", Programs.circle().explore(), 1);
        TriggerAnalyzer u = Programs.explored(Programs.program(new int[][] {{1, 0, 0, 0}}));
        u.change(0, true);
        same("explore: meets again what an earlier exploration found", u.explore(), 2);
        same("explore: numbers it anew", u.after(0, 0), 1);
        TriggerAnalyzer w = Programs.withRules(8);
        w.change(0, true);
        same("explore: all subsets", w.explore(), 256);
        TriggerAnalyzer v = Programs.withRules(8);
        for (int i = 0; i < 7; i++) {
            v.rank(i, i + 1);
        }
        v.change(0, true);
        same("explore: a total order", v.explore(), 9);
    }

    private static void exploreLimit() {
        TriggerAnalyzer most = Programs.THOUSAND.make();
        same("explore: 1000", most.explore(), 1000);
        same("explore: the last of 1000", most.triggeredOf(999) >= 0 ? 1 : 0, 1);
        refused("explore: none behind the last", INDEX, () -> most.factsOf(1000));
        TriggerAnalyzer many = Programs.ONE_TOO_MANY.make();
        same("explore: 1001", many.explore(), -1);
        same("explore: 1001 again", many.explore(), -1);
        ReferenceAnalyzer plain = Programs.ONE_TOO_MANY.makeReference();
        same("explore: 1001 in the reference", plain.explore(2000), 1001);
        many.put(0);
        same("explore: few after too many", many.explore(), 1);
        Programs.ONE_TOO_MANY.makeChanges(many);
        same("explore: too many after few", many.explore(), -1);
    }

    private static void exploreIsKept() {
        forgets("addRule", x -> x.addRule(0, true, 0, 0));
        forgets("addAction", x -> x.addAction(0, 0, true));
        forgets("turn", x -> x.turn(0, true));
        forgets("rank", x -> x.rank(0, 1));
        forgets("put", x -> x.put(1));
        forgets("change", x -> x.change(0, true));
        forgets("play", x -> x.play(0));
        forgets("run", x -> x.run(0));
        keeps("addRule", INDEX, x -> x.addRule(6, true, 0, 0));
        keeps("addRule", ARGUMENT, x -> x.addRule(0, true, 64, 0));
        keeps("addAction", INDEX, x -> x.addAction(0, 6, true));
        keeps("turn", INDEX, x -> x.turn(3, true));
        keeps("rank", ARGUMENT, x -> x.rank(0, 0));
        keeps("put", ARGUMENT, x -> x.put(64));
        keeps("change", INDEX, x -> x.change(-1, true));
        keeps("play", STATE, x -> x.play(2));
        keeps("run", ARGUMENT, x -> x.run(501));
        TriggerAnalyzer x = Programs.diamond();
        x.explore();
        x.isAbove(0, 1);
        x.ruleCount();
        x.facts();
        x.triggered();
        x.ready();
        x.canTrigger(0);
        x.circular();
        x.commute(0, 1);
        x.conflictCount();
        x.conflict(0);
        x.digest();
        same("kept: by questions", x.endCount(), 2);
    }

    private interface CallOn {
        void make(TriggerAnalyzer x);
    }

    private static void forgets(String what, CallOn call) {
        TriggerAnalyzer x = Programs.diamond();
        x.explore();
        call.make(x);
        refused(what + ": forgets what was explored", STATE, () -> x.endCount());
        x.explore();
        yes(what + ": can be explored again", x.endCount() > 0);
    }

    private static void keeps(String what, String name, CallOn call) {
        TriggerAnalyzer x = Programs.diamond();
        x.explore();
        refused(what, name, () -> call.make(x));
        same(what + ": keeps what was explored", x.endCount(), 2);
    }

    private static void needExploration() {
        TriggerAnalyzer many = Programs.ONE_TOO_MANY.make();
        many.explore();
        for (TriggerAnalyzer x : new TriggerAnalyzer[] {new TriggerAnalyzer(), Programs.diamond(), many}) {
            refused("unexplored: factsOf", STATE, () -> x.factsOf(0));
            refused("unexplored: factsOf -1", STATE, () -> x.factsOf(-1));
            refused("unexplored: triggeredOf", STATE, () -> x.triggeredOf(0));
            refused("unexplored: triggeredOf -1", STATE, () -> x.triggeredOf(-1));
            refused("unexplored: after", STATE, () -> x.after(0, 0));
            refused("unexplored: after -1", STATE, () -> x.after(-1, -1));
            refused("unexplored: terminates", STATE, () -> x.terminates());
            refused("unexplored: endCount", STATE, () -> x.endCount());
            refused("unexplored: end", STATE, () -> x.end(0));
            refused("unexplored: end -1", STATE, () -> x.end(-1));
            refused("unexplored: shortest", STATE, () -> x.shortest());
            refused("unexplored: longest", STATE, () -> x.longest());
            refused("unexplored: ways", STATE, () -> x.ways());
            refused("unexplored: isPlayed", STATE, () -> x.isPlayed(0));
            refused("unexplored: isPlayed -1", STATE, () -> x.isPlayed(-1));
            refused("unexplored: choice", STATE, () -> x.choice());
        }
    }

    private static void factsOfAndTriggeredOf() {
        TriggerAnalyzer x = Programs.diamond();
        x.explore();
        // 0 leads to 1 and 2, 1 to 3 and 4, 2 to 5, both 3 and 4 to the end 6, 5 to the end 7.
        int[] facts = {1, 3, 1, 1, 7, 3, 5, 7};
        int[] triggered = {3, 6, 1, 4, 2, 4, 0, 0};
        for (int i = 0; i < 8; i++) {
            same("factsOf " + i, x.factsOf(i), facts[i]);
            same("triggeredOf " + i, x.triggeredOf(i), triggered[i]);
        }
        for (int number : new int[] {-1, 8, 999, 1000, Integer.MAX_VALUE, Integer.MIN_VALUE}) {
            refused("factsOf " + number, INDEX, () -> x.factsOf(number));
            refused("triggeredOf " + number, INDEX, () -> x.triggeredOf(number));
        }
    }

    private static void after() {
        TriggerAnalyzer x = Programs.diamond();
        x.explore();
        same("after 0, 0", x.after(0, 0), 1);
        same("after 0, 1", x.after(0, 1), 2);
        same("after 0, 2: not triggered", x.after(0, 2), -1);
        same("after 1, 1", x.after(1, 1), 3);
        same("after 1, 2", x.after(1, 2), 4);
        same("after 2, 0", x.after(2, 0), 5);
        same("after 3, 2", x.after(3, 2), 6);
        same("after 4, 1: found already", x.after(4, 1), 6);
        same("after 5, 2", x.after(5, 2), 7);
        same("after an end", x.after(6, 0), -1);
        for (int number : NO_NUMBERS) {
            refused("after 0, " + number, INDEX, () -> x.after(0, number));
        }
        refused("after 0, 3", INDEX, () -> x.after(0, 3));
        for (int number : new int[] {-1, 8, 1000, Integer.MAX_VALUE, Integer.MIN_VALUE, 1 << 29}) {
            refused("after " + number, INDEX, () -> x.after(number, 0));
        }
        TriggerAnalyzer y = Programs.withRules(2);
        y.rank(1, 0);
        y.change(0, true);
        y.explore();
        same("after: triggered, not ready", y.after(0, 0), -1);
        same("after: ready", y.after(0, 1), 1);
        TriggerAnalyzer z = Programs.circle();
        z.explore();
        same("after: itself", z.after(0, 0), 0);
    }

    private static void terminates() {
        yes("terminates: nothing triggered", Programs.explored(new TriggerAnalyzer()).terminates());
        yes("terminates: diamond", Programs.explored(Programs.diamond()).terminates());
        no("terminates: circle", Programs.explored(Programs.circle()).terminates());
        no("terminates: circle with end", Programs.explored(Programs.circleWithEnd()).terminates());
        TriggerAnalyzer ranked = Programs.circleWithEnd();
        ranked.rank(1, 0);
        yes("terminates: the rank breaks the circle", Programs.explored(ranked).terminates());
        TriggerAnalyzer late = Programs.program(new int[][] {{1, 0, 0, 3}, {3, 0, 0, 2}, {2, 0, 0, 3}}, 1);
        no("terminates: a circle behind the first", Programs.explored(late).terminates());
        TriggerAnalyzer unused = Programs.circle();
        unused.put(0);
        yes("terminates: from this first situation", Programs.explored(unused).terminates());
        TriggerAnalyzer twice = Programs.explored(Programs.circle());
        twice.put(0);
        yes("terminates: explored again", Programs.explored(twice).terminates());
        same("longest: explored again", twice.longest(), 0);
        same("ways: explored again", twice.ways(), 1);
    }

    private static void ends() {
        TriggerAnalyzer x = Programs.explored(Programs.diamond());
        same("endCount: diamond", x.endCount(), 2);
        same("end 0", x.end(0), 5);
        same("end 1", x.end(1), 7);
        for (int index : new int[] {-1, 2, 63, 64, Integer.MAX_VALUE, Integer.MIN_VALUE}) {
            refused("end " + index, INDEX, () -> x.end(index));
        }
        same("endCount: circle", Programs.explored(Programs.circle()).endCount(), 0);
        refused("end: circle", INDEX, () -> Programs.explored(Programs.circle()).end(0));
        TriggerAnalyzer y = new TriggerAnalyzer();
        y.put(42);
        same("endCount: the first one", Programs.explored(y).endCount(), 1);
        same("end: the first one", y.end(0), 42);
        same("endCount: circle with end", Programs.explored(Programs.circleWithEnd()).endCount(), 1);
    }

    private static void shortest() {
        same("shortest: the first is an end", Programs.explored(new TriggerAnalyzer()).shortest(), 0);
        same("shortest: diamond", Programs.explored(Programs.diamond()).shortest(), 3);
        same("shortest: circle", Programs.explored(Programs.circle()).shortest(), -1);
        same("shortest: circle with end", Programs.explored(Programs.circleWithEnd()).shortest(), 2);
        same("shortest: shorter than the longest", Programs.explored(Programs.detour()).shortest(), 2);
    }

    private static void longest() {
        same("longest: the first is an end", Programs.explored(new TriggerAnalyzer()).longest(), 0);
        same("longest: detour", Programs.explored(Programs.detour()).longest(), 3);
        same("longest: circle", Programs.explored(Programs.circle()).longest(), -1);
        same("longest: circle with end", Programs.explored(Programs.circleWithEnd()).longest(), -1);
        TriggerAnalyzer x = Programs.withRules(8);
        x.change(0, true);
        same("longest: eight", Programs.explored(x).longest(), 8);
    }

    private static void ways() {
        same("ways: the first is an end", Programs.explored(new TriggerAnalyzer()).ways(), 1);
        same("ways: diamond", Programs.explored(Programs.diamond()).ways(), 3);
        same("ways: detour", Programs.explored(Programs.detour()).ways(), 3);
        same("ways: circle", Programs.explored(Programs.circle()).ways(), -1);
        same("ways: circle with end", Programs.explored(Programs.circleWithEnd()).ways(), -1);
        TriggerAnalyzer x = Programs.withRules(8);
        x.change(0, true);
        same("ways: 8 factorial", Programs.explored(x).ways(), 40320);
        TriggerAnalyzer many = Programs.MANY_WAYS.makeExplored();
        BigInteger exact = Programs.MANY_WAYS.exploredReference().exactWays();
        yes("ways: really wraps", exact.bitLength() > 64);
        yes("ways: many terminates", many.terminates());
        same("ways: wraps around", many.ways(), exact.longValue());
    }

    private static void isPlayed() {
        TriggerAnalyzer x = Programs.program(new int[][] {{1, 0, 0, 3}, {3, 0, 0}, {5, 0, 0}, {1, 63, 63}}, 1);
        x.explore();
        yes("isPlayed: at once", x.isPlayed(0));
        yes("isPlayed: later", x.isPlayed(1));
        no("isPlayed: never", x.isPlayed(2));
        yes("isPlayed: its condition does not matter", x.isPlayed(3));
        refused("isPlayed: 4", INDEX, () -> x.isPlayed(4));
        for (int number : NO_NUMBERS) {
            refused("isPlayed: " + number, INDEX, () -> x.isPlayed(number));
        }
        TriggerAnalyzer y = Programs.program(new int[][] {{1, 0, 0, 2, 3}, {3, 0, 0, 2, 3}, {1, 0, 0}}, 3, 1);
        y.rank(1, 2);
        y.explore();
        no("isPlayed: triggered, but never ready", y.isPlayed(2));
        x.put(0);
        x.explore();
        no("isPlayed: not in the next exploration", x.isPlayed(0) || x.isPlayed(1) || x.isPlayed(3));
    }

    private static void choice() {
        sameShare("choice: none", Programs.explored(new TriggerAnalyzer()).choice(), 0.0);
        sameShare("choice: diamond", Programs.explored(Programs.diamond()).choice(), 2 / 8.0);
        TriggerAnalyzer x = Programs.withRules(2);
        x.change(0, true);
        sameShare("choice: two", Programs.explored(x).choice(), 0.25);
        x.rank(0, 1);
        sameShare("choice: ranked", Programs.explored(x).choice(), 0.0);
        TriggerAnalyzer y = Programs.withRules(3);
        y.change(0, true);
        y.rank(0, 1);
        sameShare("choice: a third", Programs.explored(y).choice(), 2 / 6.0);
        TriggerAnalyzer z = Programs.program(new int[][] {{1, 0, 0, 0, 1}, {1, 0, 0, 0, 1}}, 1);
        same("choice: one situation", z.explore(), 1);
        sameShare("choice: always", z.choice(), 1.0);
    }

    private static void canTrigger() {
        TriggerAnalyzer x = Programs.program(new int[][] {{1, 0, 0, 3, 4}, {3, 0, 0}, {4, 63, 63}, {3, 0, 0}, {5, 0, 0, 5}});
        same("canTrigger: 0", x.canTrigger(0), 14);
        same("canTrigger: no actions", x.canTrigger(1), 0);
        same("canTrigger: itself", x.canTrigger(4), 16);
        TriggerAnalyzer y = Programs.program(new int[][] {{0, 0, 0}, {3, 0, 0}, {3, 0, 0, 5}});
        same("canTrigger: no action about fact 0", y.canTrigger(1) + y.canTrigger(2), 0);
        x.turn(3, false);
        same("canTrigger: not one that is off", x.canTrigger(0), 6);
        x.turn(0, false);
        same("canTrigger: off", x.canTrigger(0), 0);
        x.turn(0, true);
        x.turn(3, true);
        same("canTrigger: on again", x.canTrigger(0), 14);
        refused("canTrigger: 5", INDEX, () -> x.canTrigger(5));
        for (int number : NO_NUMBERS) {
            refused("canTrigger: " + number, INDEX, () -> x.canTrigger(number));
        }
    }

    private static void circular() {
        TriggerAnalyzer x = Programs.program(new int[][] {
            {1, 0, 0, 3}, {3, 0, 0, 5}, {5, 0, 0, 1}, {1, 0, 0, 7}, {7, 0, 0}, {9, 0, 0, 9}, {11, 0, 0, 1}});
        same("circular: a circle of three and one alone", x.circular(), 39);
        x.turn(1, false);
        same("circular: one is off", x.circular(), 32);
        x.turn(5, false);
        same("circular: none", x.circular(), 0);
        TriggerAnalyzer y = new TriggerAnalyzer();
        int[] events = {1, 3, 5, 7, 9, 11, 0, 2};
        int[] order = {0, 5, 2, 7, 4, 1, 6, 3};
        for (int i = 0; i < 8; i++) {
            int place = 0;
            for (int k = 0; k < 8; k++) {
                place = order[k] == i ? k : place;
            }
            Programs.rule(y, events[i], 0, 0, events[order[(place + 1) % 8]]);
        }
        same("circular: a circle of eight", y.circular(), 255);
    }

    private static void commute() {
        yes("commute: nothing in common", commuting(new int[] {1, 4, 8, 3}, new int[] {1, 4, 8, 11}));
        yes("commute: both set the same", commuting(new int[] {1, 0, 0, 3}, new int[] {1, 0, 0, 3}));
        yes("commute: both unset the same", commuting(new int[] {1, 0, 0, 2}, new int[] {1, 0, 0, 2}));
        no("commute: set and unset", commuting(new int[] {1, 0, 0, 3}, new int[] {1, 0, 0, 2}));
        no("commute: unset and set later", commuting(new int[] {1, 0, 0, 4, 6, 8, 2}, new int[] {1, 0, 0, 10, 3}));
        yes("commute: one alone sets and unsets", commuting(new int[] {1, 0, 0, 2, 3}, new int[] {1, 0, 0, 5}));
        no("commute: a triggers b", commuting(new int[] {1, 0, 0, 3}, new int[] {3, 0, 0}));
        no("commute: b triggers a", commuting(new int[] {3, 0, 0}, new int[] {1, 0, 0, 3}));
        no("commute: a triggers itself", commuting(new int[] {3, 0, 0, 3}, new int[] {1, 0, 0}));
        no("commute: b triggers itself", commuting(new int[] {1, 0, 0}, new int[] {3, 0, 0, 3}));
        no("commute: in the must of b", commuting(new int[] {1, 0, 0, 3}, new int[] {1, 2, 0}));
        no("commute: in the mustNot of b", commuting(new int[] {1, 0, 0, 2}, new int[] {1, 0, 2}));
        no("commute: in the must of a", commuting(new int[] {1, 2, 0}, new int[] {1, 0, 0, 3}));
        no("commute: in the mustNot of a", commuting(new int[] {1, 0, 2}, new int[] {1, 0, 0, 2}));
        yes("commute: in its own condition", commuting(new int[] {1, 2, 0, 2}, new int[] {1, 0, 0}));
        yes("commute: about the event's fact alone", commuting(new int[] {1, 0, 0, 2}, new int[] {3, 0, 0}));
        TriggerAnalyzer x = Programs.program(new int[][] {{1, 0, 0, 3}, {3, 0, 0}, {0, 0, 0, 0}});
        x.turn(0, false);
        yes("commute: a is off", x.commute(0, 1));
        yes("commute: b is off", x.commute(1, 0));
        yes("commute: off with one that triggers itself", x.commute(0, 2));
        no("commute: that one is on", x.commute(1, 2));
        refused("commute: same", ARGUMENT, () -> x.commute(1, 1));
        refused("commute: 3", INDEX, () -> x.commute(3, 3));
        for (int number : NO_NUMBERS) {
            refused("commute: a " + number, INDEX, () -> x.commute(number, 0));
            refused("commute: b " + number, INDEX, () -> x.commute(0, number));
        }
    }

    private static boolean commuting(int[] a, int[] b) {
        TriggerAnalyzer x = Programs.program(new int[][] {a, b});
        boolean there = x.commute(0, 1);
        if (there != x.commute(1, 0)) {
            wrong++;
            System.out.println("commute is not the same both ways");
        }
        return there;
    }

    private static void conflicts() {
        TriggerAnalyzer x = Programs.program(new int[][] {{1, 0, 0, 3}, {1, 0, 0, 2}, {1, 2, 0}, {1, 0, 0}});
        same("conflictCount", x.conflictCount(), 3);
        same("conflict 0", x.conflict(0), 1);
        same("conflict 1", x.conflict(1), 2);
        same("conflict 2", x.conflict(2), 12);
        x.rank(2, 3);
        x.rank(3, 0);
        same("conflictCount: ranked by way of 3", x.conflictCount(), 2);
        same("conflict 1: ranked", x.conflict(1), 12);
        x.turn(1, false);
        same("conflictCount: off", x.conflictCount(), 0);
        refused("conflict: none", INDEX, () -> x.conflict(0));
        TriggerAnalyzer y = new TriggerAnalyzer();
        for (int i = 0; i < 8; i++) {
            Programs.rule(y, 1, 0, 0, 1);
        }
        same("conflictCount: all", y.conflictCount(), 28);
        same("conflict: the last", y.conflict(27), 67);
        same("conflict: the seventh", y.conflict(6), 7);
        same("conflict: the eighth", y.conflict(7), 12);
        for (int index : new int[] {-1, 28, Integer.MAX_VALUE, Integer.MIN_VALUE}) {
            refused("conflict: " + index, INDEX, () -> y.conflict(index));
        }
    }

    private static long digestOf(int... row) {
        long d = 157;
        for (int x : row) {
            d = d * 31 + x;
        }
        return d;
    }

    private static void digest() {
        TriggerAnalyzer x = Programs.program(new int[][] {{11, 63, 1, 3, 4}, {2, 5, 6, 7, 8, 9, 10}, {11, 0, 0}});
        same("digest: rules", x.digest(), digestOf(
                3, 11, 63, 1, 2, 3, 4, 1, 0, 2, 5, 6, 4, 7, 8, 9, 10, 1, 0, 11, 0, 0, 0, 1, 0, 0, 0));
        x.rank(2, 0);
        x.rank(0, 1);
        x.turn(1, false);
        x.change(5, true);
        same("digest: changed", x.digest(), digestOf(
                3, 11, 63, 1, 2, 3, 4, 1, 2, 2, 5, 6, 4, 7, 8, 9, 10, 0, 0, 11, 0, 0, 0, 1, 3, 32, 5));
    }

    private static void digestOfExplored() {
        TriggerAnalyzer x = new TriggerAnalyzer();
        x.put(9);
        same("digest: unexplored", x.digest(), digestOf(0, 9, 0));
        x.explore();
        same("digest: explored", x.digest(), digestOf(0, 9, 0, 1));
        x.put(9);
        same("digest: forgotten", x.digest(), digestOf(0, 9, 0));
        TriggerAnalyzer many = Programs.ONE_TOO_MANY.make();
        long before = many.digest();
        many.explore();
        same("digest: too many", many.digest(), before * 31 - 1);
    }

    private static void throwsChangeNothing() {
        TriggerAnalyzer x = Programs.program(new int[][] {{1, 0, 0, 3, 3, 3, 3}, {1, 0, 0}}, 1);
        x.rank(0, 1);
        x.explore();
        long before = x.digest();
        Call[] calls = {
            () -> x.addRule(6, true, 0, 0), () -> x.addRule(0, true, 64, 0), () -> x.addAction(0, 0, true),
            () -> x.addAction(2, 0, true), () -> x.turn(2, false), () -> x.rank(1, 0), () -> x.rank(0, 2),
            () -> x.put(64), () -> x.change(6, true), () -> x.play(1), () -> x.play(2), () -> x.run(501),
            () -> x.factsOf(99), () -> x.commute(0, 0), () -> x.conflict(99)};
        for (Call call : calls) {
            boolean threw = false;
            try {
                call.make();
            } catch (RuntimeException e) {
                threw = true;
            }
            yes("wrong call throws", threw);
            same("wrong call changes nothing", x.digest(), before);
        }
    }
}
