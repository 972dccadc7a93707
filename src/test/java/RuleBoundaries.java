/** The facts, the rules and their order: the first part of the description, and promises 1 to 7. */
final class RuleBoundaries {
    private static final int[] TOO_SMALL = {-1, -2, Integer.MIN_VALUE};
    private static final int[] TOO_LARGE_FACTS = {6, 7, 8, 32, 64, Integer.MAX_VALUE};
    private static final int[] TOO_LARGE_SETS = {64, 65, 128, Integer.MAX_VALUE};
    private static final int[] TOO_LARGE_RULES = {3, 4, 7, 8, 32, 35, Integer.MAX_VALUE};
    private static final int[] RULES_BEYOND_FULL = {8, 9, 31, 32, Integer.MAX_VALUE};
    private static final int[] ANY_RULES = {0, 1, 7, -1};
    private static final String NO_SUCH_RULE = Cases.index("there is no such rule");

    private RuleBoundaries() {
    }

    static void addTo(Cases c) {
        describeFacts(c);
        describeRules(c);
        describeOrder(c);
        newObject(c);
        addRule(c);
        addRuleRefuses(c);
        addAction(c);
        addActionRefuses(c);
        turn(c);
        rank(c);
        rankRefuses(c);
        isAbove(c);
        ruleCount(c);
    }

    private static void describeFacts(Cases c) {
        String used = "An object is used for at most 512 calls after it has been made; what later calls answer is free.";
        c.add(0, "the 512th call is answered like the first", used, () -> {
            TriggerAnalyzer x = new TriggerAnalyzer();
            for (int i = 0; i < 511; i++) {
                Check.same("call " + (i + 1), x.put(i % 64), i == 0 ? 0 : (i - 1) % 64);
            }
            Check.same("call 512", x.facts(), 510 % 64);
        });
        c.add(0, "512 calls that explore 1000 situations again and again", used, () -> {
            TriggerAnalyzer x = Programs.THOUSAND_THAT_END.make();
            int calls = Programs.THOUSAND_THAT_END.callCount();
            for (; calls + 4 <= Renewed.MOST_CALLS; calls += 2) {
                x.turn(0, true);
                Check.same("call " + (calls + 2), x.explore(), 1000);
            }
            Check.same("calls left", Renewed.MOST_CALLS - calls, 2);
            Check.yes("call 511", x.terminates());
            Check.same("call 512", x.longest(), Programs.explored(Programs.THOUSAND_THAT_END.make()).longest());
        });
        String facts = "There are 6 facts, 0 to 5, each of which is set or not; sets of facts are told as the sum "
                + "of the powers 2^k of their numbers k, sets of rules in the same way.";
        c.add(0, "no fact and no rule: the empty sets are 0", facts, () -> {
            TriggerAnalyzer x = Programs.withRules(8);
            Check.same("facts", x.facts(), 0);
            Check.same("triggered", x.triggered(), 0);
        });
        c.add(0, "each fact alone is 2^k", facts, () -> {
            int[] powers = {1, 2, 4, 8, 16, 32};
            for (int fact = 0; fact < 6; fact++) {
                TriggerAnalyzer x = new TriggerAnalyzer();
                x.change(fact, true);
                Check.same("facts with " + fact, x.facts(), powers[fact]);
            }
        });
        c.add(0, "each rule alone is 2^k", facts, () -> {
            int[] powers = {1, 2, 4, 8, 16, 32, 64, 128};
            for (int rule = 0; rule < 8; rule++) {
                TriggerAnalyzer x = new TriggerAnalyzer();
                for (int i = 0; i < 8; i++) {
                    x.addRule(i == rule ? 5 : 4, true, 0, 0);
                }
                Check.same("triggered with " + rule, x.change(5, true), powers[rule]);
            }
        });
        c.add(0, "all six facts are 63, all eight rules 255", facts, () -> {
            TriggerAnalyzer x = Programs.withRules(8);
            for (int fact = 0; fact < 6; fact++) {
                x.change(fact, true);
            }
            Check.same("facts", x.facts(), 63);
            Check.same("triggered", x.triggered(), 255);
        });
    }

    private static void describeRules(Cases c) {
        String eight = "There are at most 8 rules, numbered from 0 in the order of their creation.";
        c.add(0, "the first rule is 0, the eighth 7", eight, () -> {
            TriggerAnalyzer x = new TriggerAnalyzer();
            for (int i = 0; i < 8; i++) {
                Check.same("addRule " + i, x.addRule(5 - i % 6, i % 2 == 0, i, 63 - i), i);
            }
        });
        c.add(0, "the eighth rule acts like any other, a ninth is refused", eight, () -> {
            TriggerAnalyzer x = Programs.withRules(7);
            Programs.rule(x, 3, 0, 0, 5);
            x.change(1, true);
            Check.yes("play 7", x.play(7));
            Check.same("facts", x.facts(), 6);
            Check.refused(Check.STATE, () -> Programs.withRules(8), y -> y.addRule(0, true, 0, 0));
        });
        String parts = "A rule has an event (a fact, and whether it becomes set or unset); a condition (a set of facts "
                + "that must be set, and one of facts that must not be); and at most 4 actions, which set or unset "
                + "a fact, in order.";
        c.add(0, "both kinds of event, of the first fact and of the last", parts, () -> {
            TriggerAnalyzer x = Programs.program(new int[][] {{1, 0, 0}, {0, 0, 0}, {11, 0, 0}, {10, 0, 0}});
            Check.same("set 0", x.change(0, true), 1);
            Check.same("unset 0", x.change(0, false), 3);
            Check.same("set 5", x.change(5, true), 7);
            Check.same("unset 5", x.change(5, false), 15);
        });
        c.add(0, "an empty condition is true with no fact set, and with all", parts, () -> {
            TriggerAnalyzer x = Programs.program(new int[][] {{0, 0, 0}, {1, 0, 0}});
            x.put(1);
            x.change(0, false);
            Check.yes("play with no fact", x.play(0));
            x.put(62);
            x.change(0, true);
            Check.yes("play with all facts", x.play(1));
        });
        c.add(0, "a condition about all facts, all of them set or none", parts, () -> {
            TriggerAnalyzer x = Programs.program(new int[][] {{1, 63, 0}, {0, 0, 63}});
            for (int missing = 1; missing < 6; missing++) {
                x.put(62 - (1 << missing));
                x.change(0, true);
                Check.no("must: without " + missing, x.play(0));
                x.put(1 + (1 << missing));
                x.change(0, false);
                Check.no("mustNot: with " + missing, x.play(1));
            }
            x.put(62);
            x.change(0, true);
            Check.yes("must: all facts", x.play(0));
            x.put(1);
            x.change(0, false);
            Check.yes("mustNot: no fact", x.play(1));
        });
        c.add(0, "a fact that must be set and must not be: never true", parts, () -> {
            TriggerAnalyzer x = Programs.program(new int[][] {{1, 2, 2}, {1, 2, 2}}, 1);
            Check.no("play without it", x.play(0));
            x.change(1, true);
            Check.no("play with it", x.play(1));
        });
        c.add(0, "no action, and four of them in order", parts, () -> {
            TriggerAnalyzer x = Programs.program(new int[][] {{1, 0, 0}, {1, 0, 0, 3, 2, 5, 11}, {2, 0, 0}}, 1);
            Check.yes("play without actions", x.play(0));
            Check.same("facts without actions", x.facts(), 1);
            Check.yes("play four actions", x.play(1));
            Check.same("facts after four actions", x.facts(), 1 + 4 + 32);
            Check.same("triggered by the second of them", x.triggered(), 4);
        });
        String on = "A rule is on or off (on, at first).";
        c.add(0, "a new rule is on, the first and the eighth", on, () -> {
            TriggerAnalyzer x = Programs.withRules(8);
            Check.same("triggered", x.change(0, true), 255);
            Check.yes("turn 0", x.turn(0, true));
            Check.yes("turn 7", x.turn(7, true));
        });
        c.add(0, "a rule added when others are off is on", on, () -> {
            TriggerAnalyzer x = Programs.withRules(1);
            x.turn(0, false);
            x.addRule(0, true, 0, 0);
            Check.same("triggered", x.change(0, true), 2);
            Check.no("turn 0", x.turn(0, false));
            Check.yes("turn 1", x.turn(1, false));
        });
    }

    private static void describeOrder(Cases c) {
        String order = "There is an order between rules: a rule can be ranked above another one; and a rule that is "
                + "above a second one, which is above a third one, is above this, too.";
        c.add(0, "a chain of all eight rules, ranked from its top", order, () -> isChain(chainOf(0, 1, 2, 3, 4, 5, 6)));
        c.add(0, "a chain of all eight rules, ranked from its foot", order, () -> isChain(chainOf(6, 5, 4, 3, 2, 1, 0)));
        c.add(0, "a chain of all eight rules, joined out of parts", order, () -> isChain(chainOf(0, 2, 4, 6, 1, 5, 3)));
        c.add(0, "rules that nothing joins are not ordered", order, () -> {
            TriggerAnalyzer x = Programs.withRules(4);
            x.rank(0, 1);
            x.rank(2, 1);
            x.rank(0, 3);
            Check.no("two above the same one", x.isAbove(0, 2) || x.isAbove(2, 0));
            Check.no("two below the same one", x.isAbove(1, 3) || x.isAbove(3, 1));
            Check.no("only joined by a third", x.isAbove(2, 3) || x.isAbove(3, 2));
        });
        String itself = "No rule is above itself.";
        c.add(0, "no rule is above itself, in no order and in a full one", itself, () -> {
            TriggerAnalyzer free = Programs.withRules(8);
            TriggerAnalyzer chain = chainOf(0, 1, 2, 3, 4, 5, 6);
            for (int i = 0; i < 8; i++) {
                Check.no("isAbove, no order, " + i, free.isAbove(i, i));
                Check.no("isAbove, full order, " + i, chain.isAbove(i, i));
            }
        });
        c.add(0, "a rule can't come above itself by way of seven others", itself,
                () -> Check.refused(Check.ARGUMENT, () -> chainOf(0, 1, 2, 3, 4, 5, 6), x -> x.rank(7, 0)));
        String first = "At first no fact is set, and no rule is triggered.";
        c.add(0, "at first nothing is set and nothing is triggered", first, () -> {
            TriggerAnalyzer x = new TriggerAnalyzer();
            Check.same("facts", x.facts(), 0);
            Check.same("triggered", x.triggered(), 0);
        });
        c.add(0, "a fact that was never set can't be unset", first, () -> {
            for (int fact = 0; fact < 6; fact++) {
                TriggerAnalyzer x = Programs.program(new int[][] {{2 * fact, 0, 0}});
                Check.same("unset " + fact, x.change(fact, false), 0);
            }
        });
    }

    /** Ranks each rule above the next one, in the order of the upper ones. */
    private static TriggerAnalyzer chainOf(int... uppers) {
        TriggerAnalyzer x = Programs.withRules(8);
        for (int upper : uppers) {
            Check.yes("rank " + upper, x.rank(upper, upper + 1));
        }
        return x;
    }

    private static void isChain(TriggerAnalyzer x) {
        for (int a = 0; a < 8; a++) {
            for (int b = 0; b < 8; b++) {
                Check.same("isAbove " + a + ", " + b, x.isAbove(a, b) ? 1 : 0, a < b ? 1 : 0);
            }
        }
        x.change(0, true);
        for (int i = 0; i < 8; i++) {
            Check.same("ready", x.ready(), 1 << i);
            x.play(i);
        }
    }

    private static void newObject(Cases c) {
        String sentence = "Creates an analyzer without rules; no fact is set.";
        c.add(1, "a new object: no rules, no facts", sentence, () -> {
            TriggerAnalyzer x = new TriggerAnalyzer();
            Check.same("ruleCount", x.ruleCount(), 0);
            Check.same("facts", x.facts(), 0);
            Check.same("triggered", x.triggered(), 0);
            Check.same("ready", x.ready(), 0);
        });
        c.add(1, "a new object does not know of those made before", sentence, () -> {
            TriggerAnalyzer other = Programs.explored(Programs.full());
            other.put(63);
            TriggerAnalyzer x = new TriggerAnalyzer();
            Check.same("ruleCount", x.ruleCount(), 0);
            Check.same("facts", x.facts(), 0);
            Check.same("addRule", x.addRule(0, true, 0, 0), 0);
        });
        c.add(1, "every question about no rules", sentence, () -> {
            TriggerAnalyzer x = new TriggerAnalyzer();
            Check.same("circular", x.circular(), 0);
            Check.same("conflictCount", x.conflictCount(), 0);
            Check.same("run", x.run(500), 0);
            Check.same("change", x.change(0, true), 0);
            Check.same("explore", x.explore(), 1);
        });
    }

    private static void addRule(Cases c) {
        String adds = "Adds a rule without actions.";
        c.add(2, "addRule, the new rule has no actions", adds, () -> {
            TriggerAnalyzer x = new TriggerAnalyzer();
            x.addRule(0, true, 0, 0);
            x.addRule(0, true, 0, 0);
            x.change(0, true);
            Check.same("canTrigger", x.canTrigger(1), 0);
            x.play(1);
            Check.same("facts", x.facts(), 1);
            Check.same("triggered", x.triggered(), 1);
            Check.same("addAction", x.addAction(1, 0, true), 1);
        });
        c.add(2, "addRule, the new rule is not triggered and not ranked", adds, () -> {
            TriggerAnalyzer x = Programs.triggered(2);
            x.rank(0, 1);
            x.addRule(0, true, 0, 0);
            Check.same("triggered", x.triggered(), 3);
            for (int other = 0; other < 2; other++) {
                Check.no("isAbove", x.isAbove(2, other) || x.isAbove(other, 2));
            }
        });
        c.add(2, "addRule, two rules that are all the same", adds, () -> {
            TriggerAnalyzer x = Programs.withRules(2);
            Check.same("ruleCount", x.ruleCount(), 2);
            Check.same("change", x.change(0, true), 3);
        });
        String number = "Returns its number.";
        c.add(2, "addRule, the numbers 0 to 7, and none lost by refused calls", number, () -> {
            TriggerAnalyzer x = new TriggerAnalyzer();
            for (int i = 0; i < 8; i++) {
                tryToAddWrongRules(x);
                Check.same("addRule", x.addRule(0, true, 0, 0), i);
            }
        });
    }

    private static void tryToAddWrongRules(TriggerAnalyzer x) {
        for (int[] wrong : new int[][] {{6, 0, 0}, {0, 64, 0}, {0, 0, 64}}) {
            try {
                x.addRule(wrong[0], true, wrong[1], wrong[2]);
                throw new AssertionError("a wrong rule was added");
            } catch (IllegalArgumentException | IndexOutOfBoundsException e) {
                // Which of them is thrown is the matter of other cases.
                continue;
            }
        }
    }

    private static void addRuleRefuses(Cases c) {
        String fact = Cases.index("fact is not 0 to 5");
        c.add(2, "addRule, fact too small", fact, () -> Check.refusedEach(Check.INDEX, Programs::diamond,
                (x, v) -> x.addRule(v, true, 0, 0), TOO_SMALL));
        c.add(2, "addRule, fact too large", fact, () -> Check.refusedEach(Check.INDEX, Programs::diamond,
                (x, v) -> x.addRule(v, false, 0, 0), TOO_LARGE_FACTS));
        c.add(2, "addRule, the least and the greatest fact are taken", fact, () -> {
            TriggerAnalyzer x = new TriggerAnalyzer();
            x.addRule(0, true, 0, 0);
            x.addRule(5, true, 0, 0);
            Check.same("change 0", x.change(0, true), 1);
            Check.same("change 5", x.change(5, true), 3);
        });
        String sets = Cases.argument("must or mustNot is not 0 to 63");
        c.add(2, "addRule, must too small", sets, () -> Check.refusedEach(Check.ARGUMENT, Programs::diamond,
                (x, v) -> x.addRule(0, true, v, 0), TOO_SMALL));
        c.add(2, "addRule, must too large", sets, () -> Check.refusedEach(Check.ARGUMENT, Programs::diamond,
                (x, v) -> x.addRule(0, true, v, 0), TOO_LARGE_SETS));
        c.add(2, "addRule, mustNot too small", sets, () -> Check.refusedEach(Check.ARGUMENT, Programs::diamond,
                (x, v) -> x.addRule(0, true, 0, v), TOO_SMALL));
        c.add(2, "addRule, mustNot too large", sets, () -> Check.refusedEach(Check.ARGUMENT, Programs::diamond,
                (x, v) -> x.addRule(0, true, 0, v), TOO_LARGE_SETS));
        c.add(2, "addRule, must and mustNot 0 and 63 are taken", sets, () -> {
            TriggerAnalyzer x = new TriggerAnalyzer();
            Check.same("0, 0", x.addRule(0, true, 0, 0), 0);
            Check.same("63, 0", x.addRule(0, true, 63, 0), 1);
            Check.same("0, 63", x.addRule(0, true, 0, 63), 2);
            Check.same("63, 63", x.addRule(0, true, 63, 63), 3);
        });
        String full = Cases.state("there are 8 rules");
        c.add(2, "addRule, full: a ninth rule", full,
                () -> Check.refused(Check.STATE, Programs::full, x -> x.addRule(0, true, 0, 0)));
        c.add(2, "addRule, full still when rules are off", full, () -> Check.refused(Check.STATE, () -> {
            TriggerAnalyzer x = Programs.full();
            x.turn(7, false);
            return x;
        }, x -> x.addRule(5, false, 63, 63)));
        c.add(2, "addRule, not full: an eighth rule is taken", full, () -> {
            TriggerAnalyzer x = Programs.withRules(7);
            Check.same("addRule", x.addRule(0, true, 0, 0), 7);
        });
    }

    private static void addAction(Cases c) {
        String appends = "Appends an action to a rule.";
        c.add(3, "addAction, behind those that are there, to this rule alone", appends, () -> {
            TriggerAnalyzer x = Programs.withRules(2);
            x.addAction(0, 1, true);
            x.addAction(0, 1, false);
            x.addAction(0, 2, true);
            x.change(0, true);
            x.play(0);
            Check.same("facts", x.facts(), 5);
            x.play(1);
            Check.same("facts after the other rule", x.facts(), 5);
        });
        c.add(3, "addAction, to a rule that is triggered already", appends, () -> {
            TriggerAnalyzer x = Programs.triggered(1);
            x.addAction(0, 5, true);
            Check.same("triggered", x.triggered(), 1);
            x.play(0);
            Check.same("facts", x.facts(), 33);
        });
        c.add(3, "addAction, to a rule that is off", appends, () -> {
            TriggerAnalyzer x = Programs.withRules(1);
            x.turn(0, false);
            Check.same("addAction", x.addAction(0, 3, true), 1);
            x.turn(0, true);
            x.change(0, true);
            x.play(0);
            Check.same("facts", x.facts(), 9);
        });
        String returns = "Returns the number of its actions.";
        c.add(3, "addAction, 1 to 4, for each of eight rules", returns, () -> {
            TriggerAnalyzer x = Programs.withRules(8);
            for (int i = 0; i < 4; i++) {
                for (int rule = 0; rule < 8; rule++) {
                    Check.same("addAction", x.addAction(rule, 5 - i, i % 2 == 0), i + 1);
                }
            }
        });
        c.add(3, "addAction, the same action again is one more", returns, () -> {
            TriggerAnalyzer x = Programs.withRules(1);
            for (int i = 1; i <= 4; i++) {
                Check.same("addAction", x.addAction(0, 0, true), i);
            }
        });
    }

    private static void addActionRefuses(Cases c) {
        String index = Cases.index("there is no such rule, or fact is not 0 to 5");
        c.add(3, "addAction, rule too small", index, () -> Check.refusedEach(Check.INDEX, Programs::diamond,
                (x, v) -> x.addAction(v, 0, true), TOO_SMALL));
        c.add(3, "addAction, rule too large", index, () -> Check.refusedEach(Check.INDEX, Programs::diamond,
                (x, v) -> x.addAction(v, 0, true), TOO_LARGE_RULES));
        c.add(3, "addAction, no rules at all", index, () -> Check.refusedEach(Check.INDEX, TriggerAnalyzer::new,
                (x, v) -> x.addAction(v, 0, true), ANY_RULES));
        c.add(3, "addAction, rule too large behind eight rules", index, () -> Check.refusedEach(Check.INDEX,
                () -> Programs.withRules(8), (x, v) -> x.addAction(v, 0, true), RULES_BEYOND_FULL));
        c.add(3, "addAction, fact too small", index, () -> Check.refusedEach(Check.INDEX, Programs::diamond,
                (x, v) -> x.addAction(0, v, true), TOO_SMALL));
        c.add(3, "addAction, fact too large", index, () -> Check.refusedEach(Check.INDEX, Programs::diamond,
                (x, v) -> x.addAction(0, v, false), TOO_LARGE_FACTS));
        c.add(3, "addAction, the first and last rule, the least and greatest fact are taken", index, () -> {
            TriggerAnalyzer x = Programs.withRules(8);
            x.addAction(0, 5, true);
            x.addAction(7, 0, false);
            x.change(0, true);
            x.play(0);
            Check.same("facts after rule 0", x.facts(), 33);
            x.play(7);
            Check.same("facts after rule 7", x.facts(), 32);
        });
        String full = Cases.state("it has 4 actions");
        c.add(3, "addAction, full: a fifth action", full,
                () -> Check.refused(Check.STATE, Programs::full, x -> x.addAction(7, 0, true)));
        c.add(3, "addAction, full: four times the same action", full, () -> Check.refused(Check.STATE,
                () -> Programs.program(new int[][] {{1, 0, 0, 3, 3, 3, 3}}), x -> x.addAction(0, 1, true)));
        c.add(3, "addAction, a rule beside a full one still takes four", full, () -> {
            TriggerAnalyzer x = Programs.program(new int[][] {{1, 0, 0, 3, 3, 3, 3}, {1, 0, 0, 5, 5, 5}});
            Check.same("addAction", x.addAction(1, 2, true), 4);
        });
    }

    private static void turn(Cases c) {
        String turns = "Turns a rule on or off; if it is turned off, it is triggered no more.";
        c.add(4, "turn, off while triggered: it alone is so no more", turns, () -> {
            for (int rule = 0; rule < 8; rule++) {
                TriggerAnalyzer x = Programs.triggered(8);
                x.turn(rule, false);
                Check.same("triggered without " + rule, x.triggered(), 255 - (1 << rule));
                Check.same("facts", x.facts(), 1);
            }
        });
        c.add(4, "turn, off while not triggered: the others stay so", turns, () -> {
            TriggerAnalyzer x = Programs.triggered(2);
            x.play(0);
            x.turn(0, false);
            Check.same("triggered", x.triggered(), 2);
        });
        c.add(4, "turn, off: its event triggers it no more", turns, () -> {
            TriggerAnalyzer x = Programs.withRules(2);
            x.turn(1, false);
            Check.same("change", x.change(0, true), 1);
        });
        c.add(4, "turn, on again: not triggered by that, only by its event", turns, () -> {
            TriggerAnalyzer x = Programs.triggered(1);
            x.turn(0, false);
            x.turn(0, true);
            Check.same("triggered", x.triggered(), 0);
            x.change(0, false);
            Check.same("change", x.change(0, true), 1);
        });
        c.add(4, "turn, on while on and triggered: it stays triggered", turns, () -> {
            TriggerAnalyzer x = Programs.triggered(1);
            x.turn(0, true);
            Check.same("triggered", x.triggered(), 1);
        });
        c.add(4, "turn, off while off: it stays off", turns, () -> {
            TriggerAnalyzer x = Programs.withRules(1);
            x.turn(0, false);
            x.turn(0, false);
            Check.same("change", x.change(0, true), 0);
        });
        c.add(4, "turn, all eight off: nothing is triggered or ready", turns, () -> {
            TriggerAnalyzer x = Programs.triggered(8);
            for (int rule = 0; rule < 8; rule++) {
                x.turn(rule, false);
            }
            Check.same("triggered", x.triggered(), 0);
            Check.same("ready", x.ready(), 0);
            Check.same("explore", x.explore(), 1);
        });
        c.add(4, "turn, off and on again: its place in the order, its condition and its actions stay", turns, () -> {
            TriggerAnalyzer x = Programs.program(new int[][] {{1, 0, 0}, {1, 1, 4, 3, 5}, {1, 0, 0}}, 1);
            x.rank(0, 1);
            x.rank(1, 2);
            x.put(8);
            long before = x.digest();
            for (int rule = 0; rule < 3; rule++) {
                x.turn(rule, false);
                x.turn(rule, true);
            }
            Check.same("digest", x.digest(), before);
            x.change(0, true);
            Check.same("ready", x.ready(), 1);
            x.play(0);
            Check.same("ready then", x.ready(), 2);
            Check.yes("play", x.play(1));
            Check.same("facts", x.facts(), 15);
        });
        String before = "Returns whether it was on before.";
        c.add(4, "turn, the answers of all four ways to turn", before, () -> {
            TriggerAnalyzer x = Programs.withRules(2);
            Check.yes("on to on", x.turn(0, true));
            Check.yes("on to off", x.turn(0, false));
            Check.no("off to off", x.turn(0, false));
            Check.no("off to on", x.turn(0, true));
            Check.yes("on again", x.turn(0, true));
            Check.yes("the other one", x.turn(1, true));
        });
        c.add(4, "turn, rule too small", NO_SUCH_RULE, () -> Check.refusedEach(Check.INDEX, Programs::diamond,
                (x, v) -> x.turn(v, false), TOO_SMALL));
        c.add(4, "turn, rule too large", NO_SUCH_RULE, () -> Check.refusedEach(Check.INDEX, Programs::diamond,
                (x, v) -> x.turn(v, false), TOO_LARGE_RULES));
        c.add(4, "turn, rule too large behind eight rules", NO_SUCH_RULE, () -> Check.refusedEach(Check.INDEX,
                () -> Programs.triggered(8), (x, v) -> x.turn(v, false), RULES_BEYOND_FULL));
        c.add(4, "turn, no rules at all", NO_SUCH_RULE, () -> Check.refusedEach(Check.INDEX, TriggerAnalyzer::new,
                (x, v) -> x.turn(v, true), ANY_RULES));
    }

    private static void rank(Cases c) {
        String ranks = "Ranks a rule above another one.";
        c.add(5, "rank, the first above the last, and the last above the first", ranks, () -> {
            TriggerAnalyzer x = Programs.triggered(8);
            x.rank(0, 7);
            Check.same("ready", x.ready(), 127);
            TriggerAnalyzer y = Programs.triggered(8);
            y.rank(7, 0);
            Check.same("ready", y.ready(), 254);
        });
        c.add(5, "rank, a rule that is off has its place in the order", ranks, () -> {
            TriggerAnalyzer x = Programs.withRules(3);
            x.turn(1, false);
            x.rank(0, 1);
            x.rank(1, 2);
            Check.yes("isAbove", x.isAbove(0, 2));
            x.change(0, true);
            Check.same("ready", x.ready(), 1);
        });
        String isNew = "Returns whether it was not above it before.";
        c.add(5, "rank, new, known, known by way of six others", isNew, () -> {
            TriggerAnalyzer x = Programs.withRules(8);
            for (int i = 0; i < 7; i++) {
                Check.yes("new " + i, x.rank(i, i + 1));
                Check.no("known " + i, x.rank(i, i + 1));
            }
            Check.no("known by way of others", x.rank(0, 7));
        });
        c.add(5, "rank, new although both stand in the order already", isNew, () -> {
            TriggerAnalyzer x = Programs.withRules(4);
            x.rank(0, 1);
            x.rank(2, 3);
            Check.yes("from chain to chain", x.rank(1, 2));
            Check.no("then known from end to end", x.rank(0, 3));
        });
    }

    private static void rankRefuses(Cases c) {
        c.add(5, "rank, high too small", NO_SUCH_RULE, () -> Check.refusedEach(Check.INDEX, Programs::diamond,
                (x, v) -> x.rank(v, 0), TOO_SMALL));
        c.add(5, "rank, high too large", NO_SUCH_RULE, () -> Check.refusedEach(Check.INDEX, Programs::diamond,
                (x, v) -> x.rank(v, 0), TOO_LARGE_RULES));
        c.add(5, "rank, low too small", NO_SUCH_RULE, () -> Check.refusedEach(Check.INDEX, Programs::diamond,
                (x, v) -> x.rank(0, v), TOO_SMALL));
        c.add(5, "rank, low too large", NO_SUCH_RULE, () -> Check.refusedEach(Check.INDEX, Programs::diamond,
                (x, v) -> x.rank(0, v), TOO_LARGE_RULES));
        c.add(5, "rank, too large behind eight rules", NO_SUCH_RULE, () -> {
            Check.refusedEach(Check.INDEX, Programs::full, (x, v) -> x.rank(v, 0), RULES_BEYOND_FULL);
            Check.refusedEach(Check.INDEX, Programs::full, (x, v) -> x.rank(0, v), RULES_BEYOND_FULL);
        });
        c.add(5, "rank, no rules at all", NO_SUCH_RULE, () -> Check.refusedEach(Check.INDEX, TriggerAnalyzer::new,
                (x, v) -> x.rank(v, v + 1), ANY_RULES));
        String argument = Cases.argument("low is above high, or they are the same rule");
        c.add(5, "rank, the same rule", argument, () -> Check.refusedEach(Check.ARGUMENT, Programs::full,
                (x, v) -> x.rank(v, v), 0, 1, 2, 3, 4, 5, 6, 7));
        c.add(5, "rank, low is above high at once", argument, () -> Check.refused(Check.ARGUMENT, () -> {
            TriggerAnalyzer x = Programs.withRules(2);
            x.rank(1, 0);
            return x;
        }, x -> x.rank(0, 1)));
        c.add(5, "rank, low is above high by way of others", argument, () -> {
            for (int high = 1; high < 8; high++) {
                int lower = high;
                Check.refused(Check.ARGUMENT, () -> chainOf(2, 4, 0, 6, 5, 1, 3), x -> x.rank(lower, 0));
                Check.refused(Check.ARGUMENT, () -> chainOf(2, 4, 0, 6, 5, 1, 3), x -> x.rank(7, 7 - lower));
            }
        });
        c.add(5, "rank, low is above high by way of one that is off", argument, () -> Check.refused(Check.ARGUMENT, () -> {
            TriggerAnalyzer x = Programs.withRules(3);
            x.rank(0, 1);
            x.rank(1, 2);
            x.turn(1, false);
            return x;
        }, x -> x.rank(2, 0)));
    }

    private static void isAbove(Cases c) {
        String returns = "Returns whether a is above b.";
        c.add(6, "isAbove, unranked, ranked, turned round and by way of six others", returns, () -> {
            TriggerAnalyzer free = Programs.withRules(8);
            Check.no("unranked", free.isAbove(0, 7) || free.isAbove(7, 0));
            TriggerAnalyzer chain = chainOf(6, 5, 4, 3, 2, 1, 0);
            Check.yes("ranked", chain.isAbove(6, 7));
            Check.no("turned round", chain.isAbove(7, 6));
            Check.yes("by way of six others", chain.isAbove(0, 7));
            Check.no("by way of six others, turned round", chain.isAbove(7, 0));
        });
        c.add(6, "isAbove, the same rule", returns, () -> {
            TriggerAnalyzer x = Programs.withRules(1);
            Check.no("isAbove", x.isAbove(0, 0));
        });
        c.add(6, "isAbove, a too small", NO_SUCH_RULE, () -> Check.refusedEach(Check.INDEX, Programs::diamond,
                (x, v) -> x.isAbove(v, 0), TOO_SMALL));
        c.add(6, "isAbove, a too large", NO_SUCH_RULE, () -> Check.refusedEach(Check.INDEX, Programs::diamond,
                (x, v) -> x.isAbove(v, 0), TOO_LARGE_RULES));
        c.add(6, "isAbove, b too small", NO_SUCH_RULE, () -> Check.refusedEach(Check.INDEX, Programs::diamond,
                (x, v) -> x.isAbove(0, v), TOO_SMALL));
        c.add(6, "isAbove, b too large", NO_SUCH_RULE, () -> Check.refusedEach(Check.INDEX, Programs::diamond,
                (x, v) -> x.isAbove(0, v), TOO_LARGE_RULES));
        c.add(6, "isAbove, too large behind eight rules", NO_SUCH_RULE, () -> {
            Check.refusedEach(Check.INDEX, Programs::full, (x, v) -> x.isAbove(v, 0), RULES_BEYOND_FULL);
            Check.refusedEach(Check.INDEX, Programs::full, (x, v) -> x.isAbove(0, v), RULES_BEYOND_FULL);
        });
        c.add(6, "isAbove, no rules at all", NO_SUCH_RULE, () -> Check.refusedEach(Check.INDEX, TriggerAnalyzer::new,
                (x, v) -> x.isAbove(v, v), ANY_RULES));
    }

    private static void ruleCount(Cases c) {
        String returns = "Returns the number of rules.";
        c.add(7, "ruleCount, from empty to full", returns, () -> {
            TriggerAnalyzer x = new TriggerAnalyzer();
            Check.same("empty", x.ruleCount(), 0);
            for (int i = 1; i <= 8; i++) {
                x.addRule(0, true, 0, 0);
                Check.same("ruleCount", x.ruleCount(), i);
            }
        });
        c.add(7, "ruleCount, rules that are off count, refused ones do not", returns, () -> {
            TriggerAnalyzer x = Programs.withRules(8);
            x.turn(0, false);
            Check.same("one is off", x.ruleCount(), 8);
            Check.refused(Check.STATE, () -> Programs.withRules(8), y -> y.addRule(0, true, 0, 0));
        });
    }
}
