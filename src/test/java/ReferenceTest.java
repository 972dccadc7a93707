import java.util.Random;

/** Plays the same random calls on the class and on the plain reference, and compares every answer. */
public final class ReferenceTest {
    private static final int OBJECTS = 800;
    private static final int CALLS = 100;

    private final Random random;
    private final long seed;
    private final Renewed real = new Renewed();
    private final ReferenceAnalyzer plain = new ReferenceAnalyzer();
    private boolean isFull;
    private final StringBuilder log = new StringBuilder();
    private static int wrong;
    private static int usable;
    private static int unusable;

    private ReferenceTest(long seed) {
        this.seed = seed;
        // Random's first numbers are much alike for seeds that lie close together.
        this.random = new Random(seed * 0x9E3779B97F4A7C15L);
    }

    public static void main(String[] args) {
        for (int seed = 0; seed < OBJECTS && wrong == 0; seed++) {
            new ReferenceTest(seed).playThrough();
        }
        if (usable < OBJECTS || unusable < 10) {
            wrong++;
            System.out.println("too few explorations were compared: " + usable + ", too many situations in " + unusable);
        }
        System.out.println(usable + " explorations compared, " + unusable + " with too many situations");
        System.out.println(wrong == 0 ? "the reference agrees" : "the reference does not agree");
        System.exit(wrong == 0 ? 0 : 1);
    }

    private void same(String call, long got, long want) {
        log.append(call).append('\n');
        if (got != want) {
            wrong++;
            System.out.println("seed " + seed + ", after\n" + log + "answered " + got + ", the reference " + want);
        }
    }

    private void same(String call, double got, double want) {
        same(call, Double.doubleToLongBits(got), Double.doubleToLongBits(want));
    }

    private static long of(boolean b) {
        return b ? 1 : 0;
    }

    private void playThrough() {
        // Only full programs reach hundreds of situations, and more than 1000 now and then.
        isFull = random.nextInt(8) == 0;
        int rules = isFull ? 8 : random.nextInt(9);
        for (int i = 0; i < rules; i++) {
            addRule();
            int actions = isFull ? 3 + random.nextInt(2) : random.nextInt(5);
            for (int k = 0; k < actions; k++) {
                addAction(i);
            }
        }
        for (int i = 0; i < CALLS && wrong == 0; i++) {
            step();
            compareAll(random.nextInt(4) == 0);
        }
    }

    private int smallSet() {
        int set = random.nextInt(64) & random.nextInt(64) & random.nextInt(64);
        return isFull && random.nextInt(4) > 0 ? 0 : set;
    }

    private void addRule() {
        int fact = random.nextInt(6);
        boolean isSet = random.nextBoolean();
        int must = smallSet();
        int mustNot = smallSet();
        same("addRule(" + fact + ", " + isSet + ", " + must + ", " + mustNot + ")",
                real.change(x -> x.addRule(fact, isSet, must, mustNot)), plain.addRule(fact, isSet, must, mustNot));
    }

    private void addAction(int rule) {
        int fact = random.nextInt(6);
        boolean isSet = random.nextBoolean();
        same("addAction(" + rule + ", " + fact + ", " + isSet + ")",
                real.change(x -> x.addAction(rule, fact, isSet)), plain.addAction(rule, fact, isSet));
    }

    private void step() {
        int count = plain.rules.size();
        int rule = count == 0 ? 0 : random.nextInt(count);
        int other = count == 0 ? 0 : random.nextInt(count);
        int fact = random.nextInt(6);
        boolean flag = random.nextBoolean();
        int kind = random.nextInt(12);
        if (kind < 5) {
            same("change(" + fact + ", " + flag + ")", real.change(x -> x.change(fact, flag)), plain.change(fact, flag));
        } else if (kind == 5) {
            int facts = random.nextInt(64);
            same("put(" + facts + ")", real.change(x -> x.put(facts)), plain.put(facts));
        } else if (kind == 6) {
            int most = random.nextInt(3);
            same("run(" + most + ")", real.change(x -> x.run(most)), plain.run(most));
        } else if (kind == 7 && count < 8) {
            addRule();
        } else if (kind == 8 && count > 0 && plain.rules.get(rule).actions.size() < 4) {
            addAction(rule);
        } else if (kind == 9 && count > 0) {
            boolean isOn = random.nextInt(3) > 0;
            same("turn(" + rule + ", " + isOn + ")",
                    real.change(x -> of(x.turn(rule, isOn))), of(plain.turn(rule, isOn)));
        } else if (kind == 10 && rule != other && random.nextInt(3) == 0 && !plain.isAbove(other, rule)) {
            same("rank(" + rule + ", " + other + ")",
                    real.change(x -> of(x.rank(rule, other))), of(plain.rank(rule, other)));
        } else if (kind == 11 && (plain.ready() >> rule & 1) == 1) {
            same("play(" + rule + ")", real.change(x -> of(x.play(rule))), of(plain.play(rule)));
        }
    }

    private void compareAll(boolean alsoExplored) {
        same("facts()", real.toAsk().facts(), ReferenceAnalyzer.maskOf(plain.present.facts()));
        same("triggered()", real.toAsk().triggered(), ReferenceAnalyzer.maskOf(plain.present.triggered()));
        same("ready()", real.toAsk().ready(), plain.ready());
        same("digest()", real.toAsk().digest(), plain.digest());
        compareJudging();
        if (alsoExplored && wrong == 0) {
            compareExplored();
        }
    }

    private void compareJudging() {
        int count = plain.rules.size();
        same("ruleCount()", real.toAsk().ruleCount(), count);
        same("circular()", real.toAsk().circular(), plain.circular());
        for (int a = 0; a < count; a++) {
            same("canTrigger(" + a + ")", real.toAsk().canTrigger(a), plain.canTrigger(a));
            for (int b = 0; b < count; b++) {
                same("isAbove(" + a + ", " + b + ")", of(real.toAsk().isAbove(a, b)), of(plain.isAbove(a, b)));
                if (a != b) {
                    same("commute(" + a + ", " + b + ")", of(real.toAsk().commute(a, b)), of(plain.commute(a, b)));
                }
            }
        }
        same("conflictCount()", real.toAsk().conflictCount(), plain.conflicts().size());
        for (int i = 0; i < plain.conflicts().size(); i++) {
            same("conflict(" + i + ")", real.toAsk().conflict(i), plain.conflicts().get(i));
        }
    }

    private void compareExplored() {
        same("explore()", real.change(x -> x.explore()), plain.explore());
        same("digest()", real.toAsk().digest(), plain.digest());
        if (!plain.explored()) {
            unusable++;
            return;
        }
        usable++;
        int count = plain.explored.list.size();
        for (int s = 0; s < count; s++) {
            ReferenceAnalyzer.Situation situation = plain.explored.list.get(s);
            same("factsOf(" + s + ")", real.toAsk().factsOf(s), ReferenceAnalyzer.maskOf(situation.facts()));
            same("triggeredOf(" + s + ")", real.toAsk().triggeredOf(s), ReferenceAnalyzer.maskOf(situation.triggered()));
            for (int r = 0; r < plain.rules.size(); r++) {
                same("after(" + s + ", " + r + ")", real.toAsk().after(s, r), plain.after(s, r));
            }
        }
        compareProspects();
    }

    private void compareProspects() {
        same("terminates()", of(real.toAsk().terminates()), of(plain.terminates()));
        same("endCount()", real.toAsk().endCount(), plain.ends().size());
        for (int i = 0; i < plain.ends().size(); i++) {
            same("end(" + i + ")", real.toAsk().end(i), plain.ends().get(i));
        }
        same("shortest()", real.toAsk().shortest(), plain.shortest());
        same("longest()", real.toAsk().longest(), plain.longest());
        same("ways()", real.toAsk().ways(), plain.ways());
        for (int r = 0; r < plain.rules.size(); r++) {
            same("isPlayed(" + r + ")", of(real.toAsk().isPlayed(r)), of(plain.isPlayed(r)));
        }
        same("choice()", real.toAsk().choice(), plain.choice());
    }
}
