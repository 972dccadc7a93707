import java.math.BigInteger;
import java.util.ArrayList;
import java.util.List;

/** Judging: its part of the description, promises 27 to 31, and the checksum of promise 32. */
final class JudgeBoundaries {
    private static final int[] NO_RULES = {-1, -2, 3, 4, 7, 8, 32, 33, Integer.MAX_VALUE, Integer.MIN_VALUE};
    private static final int[] RULES_BEYOND_FULL = {8, 9, 31, 32, Integer.MAX_VALUE};
    private static final String NO_SUCH_RULE = Cases.index("there is no such rule");
    private static final String NUMBERS = "A number d starts with 157; for each of the following numbers x, "
            + "d becomes d * 31 + x, which wraps around as a 64-bit integer: the number of rules, and for each of them "
            + "2 times the fact of its event, plus 1 if that becomes set, the facts that must be set, those that must "
            + "not be, the number of its actions, for each of these 2 times its fact, plus 1 if it sets it, 1 if the "
            + "rule is on, else 0, and the set of the rules that it is above; the facts that are set, and the rules "
            + "that are triggered; if something is explored, the number of situations (-1 if there are too many).";

    private JudgeBoundaries() {
    }

    static void addTo(Cases c) {
        describeTrigger(c);
        describeCommute(c);
        describeCommuteOff(c);
        describeConflict(c);
        canTrigger(c);
        circular(c);
        commute(c);
        conflictCount(c);
        conflict(c);
        digestStarts(c);
        digestOfRules(c);
        digestOfState(c);
    }

    private static void describeTrigger(Cases c) {
        String sentence = "A rule a can trigger a rule b if both are on, and an action of a is the event of b.";
        c.add(0, "the first action and the last, and no other change of the fact", sentence, () -> {
            TriggerAnalyzer x = Programs.program(new int[][] {
                {1, 0, 0, 3, 5, 7, 9}, {3, 0, 0}, {9, 0, 0}, {2, 0, 0}, {8, 0, 0}, {11, 0, 0}});
            Check.same("canTrigger", x.canTrigger(0), 2 + 4);
        });
        c.add(0, "neither of two that is off triggers or is triggered", sentence, () -> {
            TriggerAnalyzer x = Programs.program(new int[][] {{1, 0, 0, 3}, {3, 0, 0}});
            x.turn(1, false);
            Check.same("b is off", x.canTrigger(0), 0);
            x.turn(1, true);
            x.turn(0, false);
            Check.same("a is off", x.canTrigger(0), 0);
            x.turn(0, true);
            Check.same("both are on again", x.canTrigger(0), 2);
        });
        c.add(0, "itself, and not while it is off", sentence, () -> {
            TriggerAnalyzer x = Programs.program(new int[][] {{1, 0, 0, 1}});
            Check.same("on", x.canTrigger(0), 1);
            x.turn(0, false);
            Check.same("off", x.canTrigger(0), 0);
        });
        c.add(0, "conditions, facts and order do not matter", sentence, () -> {
            TriggerAnalyzer x = Programs.program(new int[][] {{1, 63, 63, 3}, {3, 63, 63}});
            x.put(63);
            x.rank(1, 0);
            Check.same("canTrigger", x.canTrigger(0), 2);
        });
    }

    private static void commutes(String what, boolean due, int[] a, int[] b) {
        TriggerAnalyzer x = Programs.program(new int[][] {a, b});
        Check.same(what, x.commute(0, 1) ? 1 : 0, due ? 1 : 0);
        Check.same(what + ", asked the other way round", x.commute(1, 0) ? 1 : 0, due ? 1 : 0);
    }

    private static void describeCommute(Cases c) {
        String sentence = "Two different rules commute if they are on, and none can trigger the other one or itself, no "
                + "action of one is about a fact in the condition of the other one, and no two actions, one of each, set "
                + "and unset the same fact; rules that are off commute with all others.";
        c.add(0, "two rules without actions commute", sentence,
                () -> commutes("commute", true, new int[] {1, 63, 63}, new int[] {1, 63, 63}));
        c.add(0, "none can trigger the other one, by its first or last action", sentence, () -> {
            commutes("first", false, new int[] {1, 0, 0, 3, 5}, new int[] {3, 0, 0});
            commutes("last", false, new int[] {1, 0, 0, 5, 7, 9, 2}, new int[] {2, 0, 0});
            commutes("opposite", true, new int[] {1, 0, 0, 2}, new int[] {3, 0, 0});
        });
        c.add(0, "none can trigger itself, be it the one or the other", sentence, () -> {
            commutes("itself", false, new int[] {3, 0, 0, 3}, new int[] {1, 0, 0});
            commutes("not itself", true, new int[] {3, 0, 0, 2}, new int[] {1, 0, 0});
        });
        c.add(0, "the condition of the other one: the least and the greatest fact, must and mustNot", sentence, () -> {
            commutes("must, fact 0", false, new int[] {3, 0, 0, 0}, new int[] {3, 1, 0});
            commutes("must, fact 5", false, new int[] {3, 0, 0, 11}, new int[] {3, 32, 0});
            commutes("mustNot, fact 0", false, new int[] {3, 0, 0, 1}, new int[] {3, 0, 1});
            commutes("mustNot, fact 5", false, new int[] {3, 0, 0, 10}, new int[] {3, 0, 32});
            commutes("beside it", true, new int[] {3, 0, 0, 4}, new int[] {3, 1 + 2 + 8, 16 + 32});
            commutes("its own", true, new int[] {3, 4, 0, 4}, new int[] {3, 0, 0});
        });
        c.add(0, "an action that can only make the condition true counts, too", sentence, () -> {
            commutes("sets what must be set", false, new int[] {3, 0, 0, 1}, new int[] {3, 1, 0});
            commutes("unsets what must not be", false, new int[] {3, 0, 0, 0}, new int[] {3, 0, 1});
        });
        c.add(0, "each of four actions counts, in both rules", sentence, () -> {
            eachActionCounts(1);
            eachActionCounts(0);
        });
        c.add(0, "set and unset the same fact: the least and the greatest, the first action and the last", sentence, () -> {
            commutes("fact 0", false, new int[] {3, 0, 0, 1}, new int[] {3, 0, 0, 0});
            commutes("fact 5", false, new int[] {3, 0, 0, 10}, new int[] {3, 0, 0, 11});
            commutes("last", false, new int[] {3, 0, 0, 5, 7, 9, 1}, new int[] {3, 0, 0, 5, 7, 9, 0});
            commutes("same", true, new int[] {3, 0, 0, 5, 7, 8, 1}, new int[] {3, 0, 0, 5, 7, 8, 1});
            commutes("one alone does both", true, new int[] {3, 0, 0, 4, 5}, new int[] {3, 0, 0, 7});
            commutes("one does both, the other one of them", false, new int[] {3, 0, 0, 4, 5}, new int[] {3, 0, 0, 5});
        });
    }

    /** Four actions that all set, or all unset, a fact of their own, against one that does not commute with one of them. */
    private static void eachActionCounts(int sets) {
        int[] facts = {0, 2, 3, 4};
        int[] one = {11, 0, 0, sets, 4 + sets, 6 + sets, 8 + sets};
        for (int place = 0; place < 4; place++) {
            int fact = facts[place];
            commutes("must, place " + place, false, one, new int[] {11, 1 << fact, 0});
            commutes("mustNot, place " + place, false, one, new int[] {11, 0, 1 << fact});
            commutes("trigger, place " + place, false, one, new int[] {2 * fact + sets, 0, 0});
            for (int other = 0; other < 4; other++) {
                int[] two = {11, 0, 0, 3 - sets, 3 - sets, 3 - sets, 3 - sets};
                two[3 + other] = 2 * fact + 1 - sets;
                commutes("set and unset, places " + place + ", " + other, false, one, two);
            }
        }
        commutes("none", true, one, new int[] {11, 2, 32, 3, 2, 3, 2});
    }

    private static void describeCommuteOff(Cases c) {
        String sentence = "Two different rules commute if they are on, and none can trigger the other one or itself, no "
                + "action of one is about a fact in the condition of the other one, and no two actions, one of each, set "
                + "and unset the same fact; rules that are off commute with all others.";
        c.add(0, "a rule that is off commutes with each of seven others", sentence, () -> {
            TriggerAnalyzer x = allInConflict(8);
            x.turn(3, false);
            for (int other = 0; other < 8; other++) {
                if (other != 3) {
                    Check.yes("commute 3, " + other, x.commute(3, other));
                    Check.yes("commute " + other + ", 3", x.commute(other, 3));
                }
            }
            Check.no("the others with each other", x.commute(0, 7));
            x.turn(3, true);
            Check.no("on again", x.commute(3, 0));
        });
        c.add(0, "two rules that are off commute", sentence, () -> {
            TriggerAnalyzer x = allInConflict(2);
            x.turn(0, false);
            x.turn(1, false);
            Check.yes("commute", x.commute(0, 1));
        });
    }

    /** Each of them can trigger itself and all others. */
    private static TriggerAnalyzer allInConflict(int count) {
        TriggerAnalyzer x = new TriggerAnalyzer();
        for (int i = 0; i < count; i++) {
            Programs.rule(x, 1, 0, 0, 1);
        }
        return x;
    }

    private static void describeConflict(Cases c) {
        String sentence = "A conflict is a pair of two different rules that do not commute, and none of which is above "
                + "the other one.";
        c.add(0, "no pair of a rule with itself", sentence,
                () -> Check.same("conflictCount", allInConflict(1).conflictCount(), 0));
        c.add(0, "a pair counts once", sentence,
                () -> Check.same("conflictCount", allInConflict(2).conflictCount(), 1));
        c.add(0, "either rule above the other one: no conflict", sentence, () -> {
            TriggerAnalyzer x = allInConflict(2);
            x.rank(0, 1);
            Check.same("the first above", x.conflictCount(), 0);
            TriggerAnalyzer y = allInConflict(2);
            y.rank(1, 0);
            Check.same("the second above", y.conflictCount(), 0);
        });
        c.add(0, "above by way of others: no conflict", sentence, () -> {
            TriggerAnalyzer x = allInConflict(8);
            for (int i = 0; i < 7; i++) {
                Check.yes("rank", x.rank(i, i + 1));
            }
            Check.same("conflictCount", x.conflictCount(), 0);
        });
        c.add(0, "rules that commute are no conflict, ranked or not", sentence, () -> {
            TriggerAnalyzer x = Programs.withRules(8);
            Check.same("not ranked", x.conflictCount(), 0);
            x.rank(0, 1);
            Check.same("ranked", x.conflictCount(), 0);
        });
    }

    private static void canTrigger(Cases c) {
        String returns = "Returns the set of the rules that it can trigger.";
        c.add(27, "canTrigger, none without actions", returns, () -> {
            TriggerAnalyzer x = Programs.withRules(8);
            for (int rule = 0; rule < 8; rule++) {
                Check.same("canTrigger", x.canTrigger(rule), 0);
            }
        });
        c.add(27, "canTrigger, all eight, itself among them", returns, () -> {
            TriggerAnalyzer x = allInConflict(8);
            for (int rule = 0; rule < 8; rule++) {
                Check.same("canTrigger", x.canTrigger(rule), 255);
            }
        });
        c.add(27, "canTrigger, at once only, not by way of others", returns, () -> {
            TriggerAnalyzer x = Programs.program(new int[][] {{1, 0, 0, 3}, {3, 0, 0, 5}, {5, 0, 0}});
            Check.same("canTrigger", x.canTrigger(0), 2);
        });
        c.add(27, "canTrigger, by each of the twelve events alone", returns, () -> {
            for (int event = 0; event < 12; event++) {
                TriggerAnalyzer x = new TriggerAnalyzer();
                Programs.rule(x, event, 0, 0);
                for (int action = 0; action < 7; action++) {
                    Programs.rule(x, (event + 1) % 12, 0, 0, (event + action) % 12);
                }
                for (int action = 0; action < 7; action++) {
                    Check.same("canTrigger", x.canTrigger(action + 1) & 1, action == 0 ? 1 : 0);
                }
            }
        });
        c.add(27, "canTrigger, rule too small and too large", NO_SUCH_RULE, () -> Check.refusedEach(Check.INDEX,
                Programs::diamond, TriggerAnalyzer::canTrigger, NO_RULES));
        c.add(27, "canTrigger, rule too large behind eight rules", NO_SUCH_RULE, () -> Check.refusedEach(Check.INDEX,
                Programs::full, TriggerAnalyzer::canTrigger, RULES_BEYOND_FULL));
        c.add(27, "canTrigger, no rules at all", NO_SUCH_RULE, () -> Check.refusedEach(Check.INDEX,
                TriggerAnalyzer::new, TriggerAnalyzer::canTrigger, 0, 7, -1));
    }

    private static void circular(Cases c) {
        String returns = "Returns the set of the rules that can trigger themselves, at once or by way of others.";
        c.add(28, "circular, none: no rules, and rules in a row", returns, () -> {
            Check.same("no rules", new TriggerAnalyzer().circular(), 0);
            Check.same("a row", rowOf(0, 1, 2, 3, 4, 5, 6, 7).circular(), 0);
        });
        c.add(28, "circular, at once: one rule, and all eight", returns, () -> {
            Check.same("one", allInConflict(1).circular(), 1);
            Check.same("all", allInConflict(8).circular(), 255);
        });
        c.add(28, "circular, by way of seven others, in any order of their numbers", returns, () -> {
            Check.same("ascending", circleOf(0, 1, 2, 3, 4, 5, 6, 7).circular(), 255);
            Check.same("descending", circleOf(7, 6, 5, 4, 3, 2, 1, 0).circular(), 255);
            Check.same("mixed", circleOf(0, 5, 2, 7, 4, 1, 6, 3).circular(), 255);
        });
        c.add(28, "circular, not those that only lead into a circle or out of it", returns, () -> {
            TriggerAnalyzer x = Programs.program(new int[][] {
                {1, 0, 0, 3}, {3, 0, 0, 5}, {5, 0, 0, 3, 7}, {7, 0, 0, 9}, {9, 0, 0}});
            Check.same("circular", x.circular(), 2 + 4);
        });
        c.add(28, "circular, not by way of a rule that is off", returns, () -> {
            TriggerAnalyzer x = circleOf(0, 1, 2, 3, 4, 5, 6, 7);
            x.turn(4, false);
            Check.same("one is off", x.circular(), 0);
            x.turn(4, true);
            Check.same("on again", x.circular(), 255);
            TriggerAnalyzer y = allInConflict(8);
            y.turn(0, false);
            y.turn(7, false);
            Check.same("the others alone", y.circular(), 126);
        });
        c.add(28, "circular, conditions, facts and order do not matter", returns, () -> {
            TriggerAnalyzer x = Programs.program(new int[][] {{1, 63, 63, 3}, {3, 63, 63, 1}});
            x.rank(1, 0);
            Check.same("circular", x.circular(), 3);
        });
    }

    /** The rule order[k] can trigger the rule order[k + 1]. */
    private static TriggerAnalyzer rowOf(int... order) {
        TriggerAnalyzer x = new TriggerAnalyzer();
        for (int rule = 0; rule < order.length; rule++) {
            x.addRule(rule % 6, rule < 6, 0, 0);
        }
        for (int k = 0; k + 1 < order.length; k++) {
            x.addAction(order[k], order[k + 1] % 6, order[k + 1] < 6);
        }
        return x;
    }

    private static TriggerAnalyzer circleOf(int... order) {
        TriggerAnalyzer x = rowOf(order);
        x.addAction(order[order.length - 1], order[0] % 6, order[0] < 6);
        return x;
    }

    private static void commute(Cases c) {
        String returns = "Returns whether they commute.";
        c.add(29, "commute, the first and the last of eight, both ways round", returns, () -> {
            TriggerAnalyzer yes = Programs.withRules(8);
            Check.yes("commute", yes.commute(0, 7) && yes.commute(7, 0));
            TriggerAnalyzer no = allInConflict(8);
            Check.no("commute not", no.commute(0, 7) || no.commute(7, 0));
        });
        c.add(29, "commute, the order does not matter", returns, () -> {
            TriggerAnalyzer x = allInConflict(2);
            x.rank(0, 1);
            Check.no("commute", x.commute(0, 1) || x.commute(1, 0));
        });
        c.add(29, "commute, a too small and too large", NO_SUCH_RULE, () -> Check.refusedEach(Check.INDEX,
                Programs::diamond, (x, v) -> x.commute(v, 0), NO_RULES));
        c.add(29, "commute, b too small and too large", NO_SUCH_RULE, () -> Check.refusedEach(Check.INDEX,
                Programs::diamond, (x, v) -> x.commute(0, v), NO_RULES));
        c.add(29, "commute, too large behind eight rules", NO_SUCH_RULE, () -> {
            Check.refusedEach(Check.INDEX, Programs::full, (x, v) -> x.commute(v, 0), RULES_BEYOND_FULL);
            Check.refusedEach(Check.INDEX, Programs::full, (x, v) -> x.commute(0, v), RULES_BEYOND_FULL);
        });
        c.add(29, "commute, no rules at all", NO_SUCH_RULE, () -> Check.refusedEach(Check.INDEX,
                TriggerAnalyzer::new, (x, v) -> x.commute(v, v + 1), 0, 7, -1));
        String same = Cases.argument("they are the same rule");
        c.add(29, "commute, the same rule, each of eight", same, () -> Check.refusedEach(Check.ARGUMENT,
                Programs::full, (x, v) -> x.commute(v, v), 0, 1, 2, 3, 4, 5, 6, 7));
        c.add(29, "commute, the same rule, though it is off", same, () -> Check.refused(Check.ARGUMENT, () -> {
            TriggerAnalyzer x = Programs.withRules(1);
            x.turn(0, false);
            return x;
        }, x -> x.commute(0, 0)));
        c.add(29, "commute, two rules that are all the same are two", same,
                () -> Check.yes("commute", Programs.withRules(2).commute(0, 1)));
    }

    private static void conflictCount(Cases c) {
        String returns = "Returns the number of conflicts.";
        c.add(30, "conflictCount, no rules, one rule, two rules", returns, () -> {
            Check.same("no rules", new TriggerAnalyzer().conflictCount(), 0);
            Check.same("one rule", allInConflict(1).conflictCount(), 0);
            Check.same("two rules", allInConflict(2).conflictCount(), 1);
        });
        c.add(30, "conflictCount, full: all 28 pairs of eight rules", returns,
                () -> Check.same("conflictCount", allInConflict(8).conflictCount(), 28));
        c.add(30, "conflictCount, less with rules that are off or ranked", returns, () -> {
            TriggerAnalyzer x = allInConflict(8);
            x.turn(7, false);
            Check.same("one is off", x.conflictCount(), 21);
            x.rank(0, 1);
            Check.same("two are ranked", x.conflictCount(), 20);
            for (int rule = 0; rule < 7; rule++) {
                x.turn(rule, false);
            }
            Check.same("all are off", x.conflictCount(), 0);
        });
    }

    private static void conflict(Cases c) {
        String returns = "Returns 10 times the smaller number plus the greater one.";
        c.add(31, "conflict, the first and the last of 28, and all between in ascending order", returns, () -> {
            TriggerAnalyzer x = allInConflict(8);
            int index = 0;
            for (int a = 0; a < 8; a++) {
                for (int b = a + 1; b < 8; b++) {
                    Check.same("conflict " + index, x.conflict(index), 10 * a + b);
                    index++;
                }
            }
            Check.same("conflicts", index, 28);
        });
        c.add(31, "conflict, the only one, of the last two rules", returns, () -> {
            TriggerAnalyzer x = Programs.withRules(6);
            Programs.rule(x, 1, 0, 0, 3);
            Programs.rule(x, 1, 0, 0, 2);
            Check.same("conflict", x.conflict(0), 67);
        });
        c.add(31, "conflict, indices close up over pairs that are none", returns, () -> {
            TriggerAnalyzer x = allInConflict(4);
            x.rank(1, 0);
            x.turn(2, false);
            Check.same("conflict 0", x.conflict(0), 3);
            Check.same("conflict 1", x.conflict(1), 13);
        });
        String index = Cases.index("there is no such conflict");
        c.add(31, "conflict, none at all", index, () -> {
            Check.refusedEach(Check.INDEX, TriggerAnalyzer::new, TriggerAnalyzer::conflict, 0, -1, 1);
            Check.refusedEach(Check.INDEX, () -> Programs.withRules(8), TriggerAnalyzer::conflict, 0, -1, 1);
        });
        c.add(31, "conflict, index too small", index, () -> Check.refusedEach(Check.INDEX,
                () -> allInConflict(8), TriggerAnalyzer::conflict, -1, -2, Integer.MIN_VALUE));
        c.add(31, "conflict, index too large", index, () -> Check.refusedEach(Check.INDEX,
                () -> allInConflict(8), TriggerAnalyzer::conflict, 28, 29, 56, 64, Integer.MAX_VALUE));
        c.add(31, "conflict, behind the only one", index, () -> Check.refusedEach(Check.INDEX,
                () -> allInConflict(2), TriggerAnalyzer::conflict, 1, 2, -1));
    }

    /** Without wrapping until the end. */
    private static BigInteger exactDigest(Iterable<Integer> row) {
        BigInteger d = BigInteger.valueOf(157);
        for (int x : row) {
            d = d.multiply(BigInteger.valueOf(31)).add(BigInteger.valueOf(x));
        }
        return d;
    }

    private static void digestIs(String what, TriggerAnalyzer x, Integer... row) {
        Check.same(what, x.digest(), exactDigest(List.of(row)).longValue());
    }

    private static void digestStarts(Cases c) {
        c.add(32, "digest, computed without any change", "Computes a checksum.", () -> {
            TriggerAnalyzer x = Programs.explored(Programs.diamond());
            long first = x.digest();
            Check.same("again", x.digest(), first);
            Check.same("facts", x.facts(), 1);
            Check.same("triggered", x.triggered(), 3);
            Check.same("endCount", x.endCount(), 2);
        });
        c.add(32, "digest, of an empty object", "Returns d.", () -> digestIs("digest", new TriggerAnalyzer(), 0, 0, 0));
        c.add(32, "digest, no rules, all facts, and what is explored", NUMBERS, () -> {
            TriggerAnalyzer x = new TriggerAnalyzer();
            x.put(63);
            digestIs("unexplored", x, 0, 63, 0);
            x.explore();
            digestIs("explored", x, 0, 63, 0, 1);
            x.put(63);
            digestIs("forgotten", x, 0, 63, 0);
        });
    }

    private static void digestOfRules(Cases c) {
        c.add(32, "digest, an empty rule and a full one", NUMBERS, () -> {
            TriggerAnalyzer x = Programs.program(new int[][] {{0, 0, 0}, {11, 63, 63, 0, 1, 10, 11}});
            digestIs("digest", x, 2, 0, 0, 0, 0, 1, 0, 11, 63, 63, 4, 0, 1, 10, 11, 1, 0, 0, 0);
        });
        c.add(32, "digest, a rule that is off, and the set of those below, not above", NUMBERS, () -> {
            TriggerAnalyzer x = Programs.withRules(3);
            x.turn(1, false);
            x.rank(2, 1);
            x.rank(1, 0);
            digestIs("digest", x, 3, 1, 0, 0, 0, 1, 0, 1, 0, 0, 0, 0, 1, 1, 0, 0, 0, 1, 3, 0, 0);
        });
        c.add(32, "digest, must and mustNot are told apart", NUMBERS, () -> {
            TriggerAnalyzer x = Programs.program(new int[][] {{1, 5, 0}, {1, 0, 5}});
            digestIs("digest", x, 2, 1, 5, 0, 0, 1, 0, 1, 0, 5, 0, 1, 0, 0, 0);
        });
        c.add(32, "digest, full: eight rules of four actions in a full order, which wraps around", NUMBERS, () -> {
            TriggerAnalyzer x = Programs.full();
            List<Integer> row = new ArrayList<>();
            row.add(8);
            for (int i = 0; i < 8; i++) {
                if (i < 7) {
                    x.rank(i, i + 1);
                }
                row.addAll(List.of(11 - i, 63 - i, i, 4, i, i + 1, i + 2, i + 3, 1, 255 - ((2 << i) - 1)));
            }
            row.add(0);
            row.add(0);
            BigInteger exact = exactDigest(row);
            Check.yes("it is more than 64 bits", exact.bitLength() > 64);
            Check.same("digest", x.digest(), exact.longValue());
        });
    }

    private static void digestOfState(Cases c) {
        c.add(32, "digest, all facts set and all eight rules triggered", NUMBERS, () -> {
            TriggerAnalyzer x = Programs.withRules(8);
            x.put(62);
            long before = x.digest();
            x.change(0, true);
            Check.same("digest", x.digest(), before + 31 + 255);
        });
        c.add(32, "digest, 1000 situations, and too many of them: -1", NUMBERS, () -> {
            TriggerAnalyzer thousand = Programs.THOUSAND.make();
            long before = thousand.digest();
            thousand.explore();
            Check.same("1000", thousand.digest(), before * 31 + 1000);
            TriggerAnalyzer many = Programs.ONE_TOO_MANY.make();
            before = many.digest();
            many.explore();
            Check.same("too many", many.digest(), before * 31 - 1);
        });
    }
}
