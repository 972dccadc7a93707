import java.math.BigInteger;
import java.util.List;

/** Exploring: its part of the description, and promises 15 to 26. */
final class ExploreBoundaries {
    private static final int[] NO_SITUATIONS = {-1, 8, 9, 999, 1000, 1 << 28, 1 << 29, Integer.MAX_VALUE, Integer.MIN_VALUE};
    private static final int[] NO_RULES = {-1, 3, 4, 7, 8, 32, 33, Integer.MAX_VALUE, Integer.MIN_VALUE};
    private static final String NO_SUCH_SITUATION = Cases.index("there is no such situation");

    private ExploreBoundaries() {
    }

    static void addTo(Cases c) {
        describeEnd(c);
        describeNumbers(c);
        describeLimit(c);
        explore(c);
        factsOf(c);
        triggeredOf(c);
        after(c);
        terminates(c);
        ends(c);
        shortest(c);
        longest(c);
        ways(c);
        isPlayed(c);
        choice(c);
        wholePrograms(c);
    }

    private static TriggerAnalyzer exploredDiamond() {
        return Programs.explored(Programs.diamond());
    }

    private static TriggerAnalyzer exploredNew() {
        return Programs.explored(new TriggerAnalyzer());
    }

    private static void describeEnd(Cases c) {
        String situation = "A situation is the set of the facts that are set, together with the set of the rules "
                + "that are triggered.";
        c.add(0, "the same facts with other triggered rules are another situation", situation, () -> {
            TriggerAnalyzer x = Programs.triggered(1);
            Check.same("explore", x.explore(), 2);
            Check.same("facts", x.factsOf(0), x.factsOf(1));
        });
        c.add(0, "the same triggered rules with other facts are another situation", situation, () -> {
            TriggerAnalyzer x = Programs.program(new int[][] {{1, 0, 0, 3, 0, 1}}, 1);
            Check.same("explore", x.explore(), 2);
            Check.same("triggered", x.triggeredOf(0), x.triggeredOf(1));
        });
        c.add(0, "no facts and no rules, all facts and all rules", situation, () -> {
            TriggerAnalyzer none = exploredNew();
            Check.same("no facts", none.factsOf(0), 0);
            Check.same("no rules", none.triggeredOf(0), 0);
            TriggerAnalyzer all = Programs.withRules(8);
            all.put(62);
            all.change(0, true);
            all.explore();
            Check.same("all facts", all.factsOf(0), 63);
            Check.same("all rules", all.triggeredOf(0), 255);
        });
        String end = "It is an end if no rule is triggered.";
        c.add(0, "a first situation without triggered rules is an end", end, () -> {
            Check.same("no rules at all", exploredNew().endCount(), 1);
            Check.same("none triggered", Programs.explored(Programs.withRules(8)).endCount(), 1);
        });
        c.add(0, "a situation that leads to itself alone is no end", end,
                () -> Check.same("endCount", Programs.explored(Programs.circle()).endCount(), 0));
        c.add(0, "a situation whose ready rules' conditions are all false is no end", end, () -> {
            TriggerAnalyzer x = Programs.explored(Programs.program(new int[][] {{1, 63, 63}}, 1));
            Check.same("explore", x.explore(), 2);
            Check.same("endCount", x.endCount(), 1);
        });
    }

    private static void describeNumbers(Cases c) {
        String found = "All situations are found to which playing can lead from the present one, which is the first.";
        c.add(0, "an end alone: one situation, the present one", found, () -> {
            TriggerAnalyzer x = new TriggerAnalyzer();
            x.put(42);
            Check.same("explore", x.explore(), 1);
            Check.same("factsOf", x.factsOf(0), 42);
            Check.same("triggeredOf", x.triggeredOf(0), 0);
        });
        c.add(0, "a circle alone: one situation, which leads to itself", found, () -> {
            TriggerAnalyzer x = Programs.circle();
            Check.same("explore", x.explore(), 1);
            Check.same("after", x.after(0, 0), 0);
        });
        c.add(0, "eight rules in any order: all 256 sets of them", found, () -> {
            TriggerAnalyzer x = Programs.triggered(8);
            Check.same("explore", x.explore(), 256);
            Check.same("the first", x.triggeredOf(0), 255);
            Check.same("the last", x.triggeredOf(255), 0);
        });
        c.add(0, "only what is ready is played", found, () -> {
            TriggerAnalyzer x = Programs.triggered(8);
            for (int i = 0; i < 7; i++) {
                x.rank(i, i + 1);
            }
            Check.same("explore", x.explore(), 9);
        });
        c.add(0, "what can't be reached any more is not found", found, () -> {
            TriggerAnalyzer x = Programs.diamond();
            x.explore();
            x.play(1);
            Check.same("explore", x.explore(), 3);
            Check.same("factsOf", x.factsOf(2), 7);
        });
        c.add(0, "what an earlier exploration found is found again: the empty situation", found, () -> {
            TriggerAnalyzer x = Programs.program(new int[][] {{1, 0, 0, 0}});
            Check.same("explore", x.explore(), 1);
            x.change(0, true);
            Check.same("explore again", x.explore(), 2);
            Check.same("after", x.after(0, 0), 1);
            Check.same("facts", x.factsOf(1), 0);
        });
        c.add(0, "what an earlier exploration found is found again: all facts and all rules", found, () -> {
            TriggerAnalyzer x = Programs.withRules(8);
            x.put(62);
            x.change(0, true);
            Check.same("explore", x.explore(), 256);
            x.change(0, false);
            Check.same("explore, other facts", x.explore(), 256);
            x.change(0, true);
            Check.same("explore again", x.explore(), 256);
            Check.same("facts", x.factsOf(255), 63);
        });
        String numbers = "They are numbered from 0 in the order in which they are found: those that come from a situation "
                + "that was found earlier come earlier, and of one situation by the ascending numbers of the ready rules.";
        c.add(0, "eight rules: the first one leads to 1 and the last one to 8", numbers, () -> {
            TriggerAnalyzer x = Programs.explored(Programs.triggered(8));
            for (int rule = 0; rule < 8; rule++) {
                Check.same("after 0, " + rule, x.after(0, rule), rule + 1);
            }
            Check.same("after 1, 1: the next to be found", x.after(1, 1), 9);
            Check.same("after 2, 0: found already", x.after(2, 0), 9);
        });
        c.add(0, "what an earlier situation leads to comes before what a later one does", numbers, () -> {
            TriggerAnalyzer x = exploredDiamond();
            int[] facts = {1, 3, 1, 1, 7, 3, 5, 7};
            int[] triggered = {3, 6, 1, 4, 2, 4, 0, 0};
            for (int i = 0; i < 8; i++) {
                Check.same("factsOf " + i, x.factsOf(i), facts[i]);
                Check.same("triggeredOf " + i, x.triggeredOf(i), triggered[i]);
            }
        });
        c.add(0, "a situation met again keeps its number", numbers, () -> {
            TriggerAnalyzer x = Programs.program(new int[][] {{1, 0, 0, 3}, {3, 0, 0, 2, 0, 1}}, 1);
            Check.same("explore", x.explore(), 2);
            Check.same("after 1, 1: the first one again", x.after(1, 1), 0);
        });
    }

    private static void describeLimit(Cases c) {
        String limit = "If there are more than 1000, there are too many.";
        c.add(0, "just 1000 situations are not too many", limit, () -> {
            Check.same("with a circle", Programs.THOUSAND.make().explore(), 1000);
            Check.same("without one", Programs.THOUSAND_THAT_END.make().explore(), 1000);
        });
        c.add(0, "1001 situations are too many", limit, () -> {
            Check.same("explore", Programs.ONE_TOO_MANY.make().explore(), -1);
            Check.same("the reference", Programs.ONE_TOO_MANY.makeReference().explore(20000), 1001);
        });
        c.add(0, "7806 situations are too many", limit, () -> {
            Check.same("explore", Programs.FAR_TOO_MANY.make().explore(), -1);
            Check.same("the reference", Programs.FAR_TOO_MANY.makeReference().explore(20000), 7806);
        });
    }

    private static void explore(Cases c) {
        String done = "Explores, if it is not done yet.";
        c.add(15, "explore, a second time", done, () -> {
            TriggerAnalyzer x = Programs.diamond();
            Check.same("first", x.explore(), 8);
            long digest = x.digest();
            Check.same("second", x.explore(), 8);
            Check.same("digest", x.digest(), digest);
            Check.same("endCount", x.endCount(), 2);
        });
        c.add(15, "explore, leaves the present situation as it is", done, () -> {
            TriggerAnalyzer x = exploredDiamond();
            Check.same("facts", x.facts(), 1);
            Check.same("triggered", x.triggered(), 3);
            Check.same("ready", x.ready(), 3);
        });
        c.add(15, "explore, anew after a change", done, () -> {
            TriggerAnalyzer x = exploredDiamond();
            x.run(500);
            Check.same("explore", x.explore(), 1);
            Check.same("factsOf", x.factsOf(0), 5);
        });
        String returns = "Returns the number of situations; -1 if there are too many.";
        c.add(15, "explore, one situation", returns, () -> Check.same("explore", new TriggerAnalyzer().explore(), 1));
        c.add(15, "explore, 1000 again and again", returns, () -> {
            TriggerAnalyzer x = Programs.THOUSAND.make();
            Check.same("first", x.explore(), 1000);
            Check.same("second", x.explore(), 1000);
        });
        c.add(15, "explore, -1 again and again", returns, () -> {
            TriggerAnalyzer x = Programs.ONE_TOO_MANY.make();
            Check.same("first", x.explore(), -1);
            Check.same("second", x.explore(), -1);
        });
        c.add(15, "explore, few after too many, and too many after few", returns, () -> {
            TriggerAnalyzer x = Programs.FAR_TOO_MANY.make();
            Check.same("too many", x.explore(), -1);
            x.put(0);
            Check.same("few", x.explore(), 1);
            Check.same("endCount", x.endCount(), 1);
            Programs.FAR_TOO_MANY.makeChanges(x);
            Check.same("too many again", x.explore(), -1);
        });
    }

    private static void factsOf(Cases c) {
        c.add(16, "factsOf, the first and the last of 1000", "Returns its facts.", () -> {
            TriggerAnalyzer x = Programs.THOUSAND.makeExplored();
            ReferenceAnalyzer plain = Programs.THOUSAND.exploredReference();
            Check.same("first", x.factsOf(0), x.facts());
            Check.same("last", x.factsOf(999), ReferenceAnalyzer.maskOf(plain.explored.list.get(999).facts()));
        });
        c.add(16, "factsOf, no such situation", NO_SUCH_SITUATION, () -> refusedEach(
                ExploreBoundaries::exploredDiamond, TriggerAnalyzer::factsOf, NO_SITUATIONS));
        c.add(16, "factsOf, behind the last of 1000", NO_SUCH_SITUATION, () -> refusedEach(
                Programs.THOUSAND::makeExplored, TriggerAnalyzer::factsOf, 1000, 1001, -1));
        c.add(16, "factsOf, behind the only one", NO_SUCH_SITUATION, () -> refusedEach(
                ExploreBoundaries::exploredNew, TriggerAnalyzer::factsOf, 1, -1));
        c.add(16, "factsOf, one that only an earlier exploration had", NO_SUCH_SITUATION, () -> refusedEach(
                ExploreBoundaries::smallerThanBefore, TriggerAnalyzer::factsOf, 1, 7));
    }

    private static void refusedEach(Check.Maker maker, Check.CallWith call, int... arguments) {
        for (int argument : arguments) {
            try {
                Check.refusedAsItIs(Check.INDEX, maker, x -> call.make(x, argument));
            } catch (AssertionError e) {
                throw new AssertionError("argument " + argument + ": " + e.getMessage());
            }
        }
    }

    /** First eight situations and two ends, then one that is the only end. */
    private static TriggerAnalyzer smallerThanBefore() {
        TriggerAnalyzer x = exploredDiamond();
        x.put(9);
        return Programs.explored(x);
    }

    private static void triggeredOf(Cases c) {
        c.add(17, "triggeredOf, the first and the last of 1000", "Returns its triggered rules.", () -> {
            TriggerAnalyzer x = Programs.THOUSAND.makeExplored();
            ReferenceAnalyzer plain = Programs.THOUSAND.exploredReference();
            Check.same("first", x.triggeredOf(0), x.triggered());
            Check.same("last", x.triggeredOf(999), ReferenceAnalyzer.maskOf(plain.explored.list.get(999).triggered()));
        });
        c.add(17, "triggeredOf, no such situation", NO_SUCH_SITUATION, () -> refusedEach(
                ExploreBoundaries::exploredDiamond, TriggerAnalyzer::triggeredOf, NO_SITUATIONS));
        c.add(17, "triggeredOf, behind the last of 1000", NO_SUCH_SITUATION, () -> refusedEach(
                Programs.THOUSAND::makeExplored, TriggerAnalyzer::triggeredOf, 1000, 1001, -1));
        c.add(17, "triggeredOf, behind the only one", NO_SUCH_SITUATION, () -> refusedEach(
                ExploreBoundaries::exploredNew, TriggerAnalyzer::triggeredOf, 1, -1));
        c.add(17, "triggeredOf, one that only an earlier exploration had", NO_SUCH_SITUATION, () -> refusedEach(
                ExploreBoundaries::smallerThanBefore, TriggerAnalyzer::triggeredOf, 1, 7));
    }

    private static void after(Cases c) {
        String returns = "Returns the situation to which playing the rule leads from there; -1 if it is not ready there.";
        c.add(18, "after, not triggered, and nothing triggered", returns, () -> {
            TriggerAnalyzer x = exploredDiamond();
            Check.same("not triggered", x.after(0, 2), -1);
            for (int rule = 0; rule < 3; rule++) {
                Check.same("an end", x.after(6, rule), -1);
            }
        });
        c.add(18, "after, triggered, but below another triggered one", returns, () -> {
            TriggerAnalyzer x = Programs.triggered(2);
            x.rank(1, 0);
            x.explore();
            Check.same("below", x.after(0, 0), -1);
            Check.same("above", x.after(0, 1), 1);
            Check.same("alone then", x.after(1, 0), 2);
        });
        c.add(18, "after, back to the first one, and to itself", returns, () -> {
            TriggerAnalyzer x = Programs.explored(Programs.program(new int[][] {{1, 0, 0, 3}, {3, 0, 0, 2, 0, 1}}, 1));
            Check.same("there", x.after(0, 0), 1);
            Check.same("back", x.after(1, 1), 0);
            Check.same("itself", Programs.explored(Programs.circle()).after(0, 0), 0);
        });
        c.add(18, "after, from the last of 1000, with the first and the last rule", returns, () -> {
            TriggerAnalyzer x = Programs.THOUSAND.makeExplored();
            ReferenceAnalyzer plain = Programs.THOUSAND.exploredReference();
            for (int rule = 0; rule < 8; rule++) {
                Check.same("after 999, " + rule, x.after(999, rule), plain.after(999, rule));
                Check.same("after 0, " + rule, x.after(0, rule), plain.after(0, rule));
            }
        });
        c.add(18, "after, with the present rules, though one was added before exploring", returns, () -> {
            TriggerAnalyzer x = Programs.triggered(1);
            x.addRule(0, true, 0, 0);
            x.explore();
            Check.same("after", x.after(0, 1), -1);
        });
        String index = Cases.index("there is no such situation or rule");
        c.add(18, "after, no such situation", index, () -> refusedEach(
                ExploreBoundaries::exploredDiamond, (x, v) -> x.after(v, 0), NO_SITUATIONS));
        c.add(18, "after, behind the last of 1000", index, () -> refusedEach(
                Programs.THOUSAND::makeExplored, (x, v) -> x.after(v, 7), 1000, 1001, -1));
        c.add(18, "after, no such rule", index, () -> refusedEach(
                ExploreBoundaries::exploredDiamond, (x, v) -> x.after(0, v), NO_RULES));
        c.add(18, "after, no such rule behind eight", index, () -> refusedEach(
                Programs.THOUSAND::makeExplored, (x, v) -> x.after(0, v), 8, 9, 32, -1));
        c.add(18, "after, no rules at all", index, () -> refusedEach(
                ExploreBoundaries::exploredNew, (x, v) -> x.after(0, v), 0, 7, -1));
        c.add(18, "after, one that only an earlier exploration had", index, () -> refusedEach(
                ExploreBoundaries::smallerThanBefore, (x, v) -> x.after(v, 0), 1, 7));
    }

    private static void terminates(Cases c) {
        String returns = "Returns whether playing comes to an end from the first situation, whatever rules are chosen.";
        c.add(19, "terminates, the first situation is an end", returns,
                () -> Check.yes("terminates", exploredNew().terminates()));
        c.add(19, "terminates, a situation that leads to itself", returns,
                () -> Check.no("terminates", Programs.explored(Programs.circle()).terminates()));
        c.add(19, "terminates, an end can be met, but need not", returns,
                () -> Check.no("terminates", Programs.explored(Programs.circleWithEnd()).terminates()));
        c.add(19, "terminates, a circle of the last two situations", returns, () -> {
            TriggerAnalyzer x = Programs.program(new int[][] {{1, 0, 0, 3}, {3, 0, 0, 2}, {2, 0, 0, 3}}, 1);
            Check.no("terminates", Programs.explored(x).terminates());
        });
        c.add(19, "terminates, a circle back to the first situation", returns, () -> {
            TriggerAnalyzer x = Programs.program(new int[][] {{1, 0, 0, 3}, {3, 0, 0, 2, 0, 1}}, 1);
            Check.no("terminates", Programs.explored(x).terminates());
        });
        c.add(19, "terminates, a circle back to the first, and from it to one that leads to itself alone", returns, () -> {
            TriggerAnalyzer x = Programs.program(new int[][] {
                {1, 0, 0, 3}, {3, 0, 0, 2, 0, 1}, {7, 0, 0, 5}, {5, 0, 0, 4, 5}}, 7, 1);
            x.rank(0, 2);
            x.rank(3, 1);
            Check.same("explore", x.explore(), 3);
            Check.same("back", x.after(1, 1), 0);
            Check.same("itself", x.after(2, 3), 2);
            Check.no("terminates", x.terminates());
        });
        c.add(19, "terminates, rules that could trigger themselves, but not from here", returns, () -> {
            TriggerAnalyzer x = Programs.circle();
            x.put(0);
            Check.yes("terminates", Programs.explored(x).terminates());
        });
        c.add(19, "terminates, 1000 situations without a circle, and with one", returns, () -> {
            Check.yes("without", Programs.THOUSAND_THAT_END.makeExplored().terminates());
            Check.no("with one", Programs.THOUSAND.makeExplored().terminates());
        });
        c.add(19, "terminates, explored again after a circle", returns, () -> {
            TriggerAnalyzer x = Programs.explored(Programs.circle());
            x.put(0);
            Check.yes("terminates", Programs.explored(x).terminates());
        });
    }

    private static void ends(Cases c) {
        String count = "Returns the number of ends.";
        c.add(20, "endCount, none", count,
                () -> Check.same("endCount", Programs.explored(Programs.circle()).endCount(), 0));
        c.add(20, "endCount, the only situation", count, () -> Check.same("endCount", exploredNew().endCount(), 1));
        c.add(20, "endCount, one end that many ways lead to", count,
                () -> Check.same("endCount", Programs.explored(Programs.triggered(8)).endCount(), 1));
        c.add(20, "endCount, every set of facts is an end: 64", count,
                () -> Check.same("endCount", Programs.ALL_ENDS.makeExplored().endCount(), 64));
        c.add(20, "endCount, fewer than in an earlier exploration", count,
                () -> Check.same("endCount", smallerThanBefore().endCount(), 1));
        String facts = "Returns its facts.";
        c.add(21, "end, the first situation", facts, () -> Check.same("end", smallerThanBefore().end(0), 9));
        c.add(21, "end, the first and the last of 64, each set of facts once", facts, () -> {
            TriggerAnalyzer x = Programs.ALL_ENDS.makeExplored();
            List<Integer> due = Programs.ALL_ENDS.exploredReference().ends();
            long seen = 0;
            for (int i = 0; i < 64; i++) {
                Check.same("end " + i, x.end(i), due.get(i));
                seen |= 1L << x.end(i);
            }
            Check.same("all sets", seen, -1L);
        });
        c.add(21, "end, in the order of the situations, not of the facts", facts, () -> {
            TriggerAnalyzer x = Programs.explored(Programs.program(new int[][] {{1, 0, 0, 2}, {1, 0, 0, 3}}, 1));
            Check.same("end 0", x.end(0), 3);
            Check.same("end 1", x.end(1), 1);
        });
        String index = Cases.index("there is no such end");
        c.add(21, "end, none at all", index, () -> refusedEach(
                () -> Programs.explored(Programs.circle()), TriggerAnalyzer::end, 0, 1, -1));
        c.add(21, "end, too small and too large", index, () -> refusedEach(ExploreBoundaries::exploredDiamond,
                TriggerAnalyzer::end, -1, 2, 6, 7, 8, 63, 64, Integer.MAX_VALUE, Integer.MIN_VALUE));
        c.add(21, "end, behind the last of 64", index, () -> refusedEach(
                Programs.ALL_ENDS::makeExplored, TriggerAnalyzer::end, 64, 65, -1));
        c.add(21, "end, one that only an earlier exploration had", index, () -> refusedEach(
                ExploreBoundaries::smallerThanBefore, TriggerAnalyzer::end, 1, 2));
    }

    /** First a chain of five plays, then three rules in any order. */
    private static TriggerAnalyzer flatterThanBefore() {
        TriggerAnalyzer x = Programs.program(new int[][] {
            {1, 0, 0}, {1, 0, 0}, {1, 0, 0}, {3, 0, 0}, {3, 0, 0}, {3, 0, 0}, {3, 0, 0}, {3, 0, 0}}, 3);
        for (int rule = 3; rule < 7; rule++) {
            x.rank(rule, rule + 1);
        }
        Check.same("longest before", Programs.explored(x).longest(), 5);
        Check.same("ways before", x.ways(), 1);
        x.put(0);
        x.change(0, true);
        return Programs.explored(x);
    }

    private static void shortest(Cases c) {
        String returns = "Returns the least number of plays that lead to an end; -1 if there is no end.";
        c.add(22, "shortest, the first situation is an end", returns,
                () -> Check.same("shortest", exploredNew().shortest(), 0));
        c.add(22, "shortest, no end", returns,
                () -> Check.same("shortest", Programs.explored(Programs.circle()).shortest(), -1));
        c.add(22, "shortest, one play", returns,
                () -> Check.same("shortest", Programs.explored(Programs.triggered(1)).shortest(), 1));
        c.add(22, "shortest, less than the longest", returns,
                () -> Check.same("shortest", Programs.explored(Programs.detour()).shortest(), 2));
        c.add(22, "shortest, an end though playing need not come to one", returns,
                () -> Check.same("shortest", Programs.explored(Programs.circleWithEnd()).shortest(), 2));
        c.add(22, "shortest, 84 plays", returns,
                () -> Check.same("shortest", Programs.NO_SHORT_WAY.makeExplored().shortest(), 84));
        c.add(22, "shortest, no end after an exploration with one", returns, () -> {
            TriggerAnalyzer x = Programs.circle();
            x.put(0);
            x.explore();
            Check.same("with an end", x.shortest(), 0);
            x.change(1, true);
            Check.same("without", Programs.explored(x).shortest(), -1);
        });
    }

    private static void longest(Cases c) {
        String returns = "Returns the greatest number of plays that lead to an end; -1 if playing need not come to an end.";
        c.add(23, "longest, the first situation is an end", returns,
                () -> Check.same("longest", exploredNew().longest(), 0));
        c.add(23, "longest, no end", returns,
                () -> Check.same("longest", Programs.explored(Programs.circle()).longest(), -1));
        c.add(23, "longest, an end can be met, but need not", returns,
                () -> Check.same("longest", Programs.explored(Programs.circleWithEnd()).longest(), -1));
        c.add(23, "longest, more than the shortest", returns,
                () -> Check.same("longest", Programs.explored(Programs.detour()).longest(), 3));
        c.add(23, "longest, 389 plays", returns,
                () -> Check.same("longest", Programs.LONG_WAY.makeExplored().longest(), 389));
        c.add(23, "longest, less than in an earlier exploration", returns, () -> {
            Check.same("one situation", smallerThanBefore().longest(), 0);
            Check.same("eight situations", flatterThanBefore().longest(), 3);
        });
    }

    private static void ways(Cases c) {
        String counts = "Counts the different ways to play from the first situation until an end (the different rows of "
                + "rules that are played).";
        c.add(24, "ways, the empty row alone if the first situation is an end", counts,
                () -> Check.same("ways", exploredNew().ways(), 1));
        c.add(24, "ways, rules that do the same are different rows", counts,
                () -> Check.same("ways", Programs.explored(Programs.triggered(2)).ways(), 2));
        c.add(24, "ways, two rules that lead from one situation to the same one", counts, () -> {
            TriggerAnalyzer x = Programs.program(new int[][] {{1, 0, 2, 3, 0, 1}, {1, 0, 2, 3, 0, 1}}, 1);
            Check.same("explore", x.explore(), 5);
            Check.same("after", x.after(0, 0), x.after(0, 1));
            Check.yes("terminates", x.terminates());
            Check.same("ways", x.ways(), 4);
        });
        c.add(24, "ways, rows to different ends and of different lengths", counts, () -> {
            Check.same("two ends", exploredDiamond().ways(), 3);
            Check.same("two lengths", Programs.explored(Programs.detour()).ways(), 3);
        });
        String returns = "Returns their number, which wraps around as a 64-bit integer; -1 if playing need not come "
                + "to an end.";
        c.add(24, "ways, eight rules in any order", returns,
                () -> Check.same("ways", Programs.explored(Programs.triggered(8)).ways(), 40320));
        c.add(24, "ways, a number that wraps around", returns, () -> {
            BigInteger exact = Programs.MANY_WAYS.exploredReference().exactWays();
            Check.yes("it is more than 64 bits", exact.bitLength() > 64);
            Check.same("ways", Programs.MANY_WAYS.makeExplored().ways(), exact.longValue());
        });
        c.add(24, "ways, a number of more than 32 bits that does not wrap around", returns, () -> {
            BigInteger exact = Programs.MANY_WAYS_UNWRAPPED.exploredReference().exactWays();
            Check.yes("it is more than 32 bits", exact.bitLength() > 32 && exact.bitLength() < 64);
            Check.same("ways", Programs.MANY_WAYS_UNWRAPPED.makeExplored().ways(), exact.longValue());
        });
        c.add(24, "ways, no end, and an end that need not be met", returns, () -> {
            Check.same("no end", Programs.explored(Programs.circle()).ways(), -1);
            Check.same("an end", Programs.explored(Programs.circleWithEnd()).ways(), -1);
        });
        c.add(24, "ways, not those of an earlier exploration", returns, () -> {
            Check.same("one situation", smallerThanBefore().ways(), 1);
            Check.same("eight situations", flatterThanBefore().ways(), 6);
        });
    }

    private static void isPlayed(Cases c) {
        String returns = "Returns whether the rule is ready in some situation.";
        c.add(25, "isPlayed, in the first situation alone, and in a late one alone", returns, () -> {
            TriggerAnalyzer x = Programs.program(new int[][] {{1, 0, 0, 3}, {3, 0, 0, 5}, {5, 0, 0}, {7, 0, 0}}, 1);
            x.explore();
            Check.yes("first", x.isPlayed(0));
            Check.yes("late", x.isPlayed(2));
            Check.no("never", x.isPlayed(3));
        });
        c.add(25, "isPlayed, triggered always, and never ready", returns, () -> {
            TriggerAnalyzer x = Programs.program(new int[][] {{1, 0, 0, 2, 3}, {3, 0, 0, 2, 3}, {1, 0, 0}}, 3, 1);
            x.rank(1, 2);
            x.explore();
            Check.no("isPlayed", x.isPlayed(2));
        });
        c.add(25, "isPlayed, ready with a condition that is never true", returns, () -> Check.yes("isPlayed",
                Programs.explored(Programs.program(new int[][] {{1, 63, 63}}, 1)).isPlayed(0)));
        c.add(25, "isPlayed, the first and the last of eight, all and none", returns, () -> {
            TriggerAnalyzer all = Programs.explored(Programs.triggered(8));
            TriggerAnalyzer none = Programs.explored(Programs.withRules(8));
            for (int rule = 0; rule < 8; rule++) {
                Check.yes("all: " + rule, all.isPlayed(rule));
                Check.no("none: " + rule, none.isPlayed(rule));
            }
        });
        c.add(25, "isPlayed, not what an earlier exploration had", returns,
                () -> Check.no("isPlayed", smallerThanBefore().isPlayed(0)));
        String index = Cases.index("there is no such rule");
        c.add(25, "isPlayed, rule too small and too large", index, () -> refusedEach(
                ExploreBoundaries::exploredDiamond, TriggerAnalyzer::isPlayed, NO_RULES));
        c.add(25, "isPlayed, rule too large behind eight", index, () -> refusedEach(
                () -> Programs.explored(Programs.triggered(8)), TriggerAnalyzer::isPlayed, 8, 9, 32, -1));
        c.add(25, "isPlayed, no rules at all", index, () -> refusedEach(
                ExploreBoundaries::exploredNew, TriggerAnalyzer::isPlayed, 0, 7, -1));
    }

    private static void choice(Cases c) {
        String returns = "Returns the number of situations in which at least two rules are ready, divided by the "
                + "number of situations.";
        c.add(26, "choice, none", returns, () -> {
            Check.sameShare("no rules", exploredNew().choice(), 0.0);
            Check.sameShare("one rule", Programs.explored(Programs.triggered(1)).choice(), 0.0);
        });
        c.add(26, "choice, in every situation", returns, () -> {
            TriggerAnalyzer x = Programs.program(new int[][] {{1, 0, 0, 0, 1}, {1, 0, 0, 0, 1}}, 1);
            Check.sameShare("choice", Programs.explored(x).choice(), 1.0);
        });
        c.add(26, "choice, just two rules are ready", returns,
                () -> Check.sameShare("choice", Programs.explored(Programs.triggered(2)).choice(), 1 / 4.0));
        c.add(26, "choice, three rules count no more than two", returns,
                () -> Check.sameShare("choice", Programs.explored(Programs.triggered(3)).choice(), 4 / 8.0));
        c.add(26, "choice, two triggered, and one ready", returns, () -> {
            TriggerAnalyzer x = Programs.triggered(2);
            x.rank(0, 1);
            Check.sameShare("choice", Programs.explored(x).choice(), 0.0);
        });
        c.add(26, "choice, a share that is not exact", returns, () -> {
            TriggerAnalyzer x = Programs.triggered(3);
            x.rank(0, 1);
            Check.sameShare("choice", Programs.explored(x).choice(), 2 / 6.0);
        });
        c.add(26, "choice, of 1000", returns, () -> Check.sameShare("choice", Programs.THOUSAND.makeExplored().choice(),
                Programs.THOUSAND.exploredReference().choice()));
        c.add(26, "choice, not that of an earlier exploration", returns,
                () -> Check.sameShare("choice", smallerThanBefore().choice(), 0.0));
    }

    private static void wholePrograms(Cases c) {
        String found = "All situations are found to which playing can lead from the present one, which is the first.";
        c.add(0, "1000 situations with a circle, each of them", found, () -> sameAsReference(Programs.THOUSAND));
        c.add(0, "1000 situations without a circle, each of them", found, () -> sameAsReference(Programs.THOUSAND_THAT_END));
        c.add(0, "64 ends, each situation", found, () -> sameAsReference(Programs.ALL_ENDS));
        c.add(0, "389 plays until an end, each situation", found, () -> sameAsReference(Programs.LONG_WAY));
        c.add(0, "rules that are ranked or off, each situation", found, () -> {
            ReferenceAnalyzer plain = Programs.THOUSAND_THAT_END.makeReference();
            plain.rank(5, 0);
            plain.rank(0, 6);
            plain.turn(7, false);
            plain.explore();
            Check.yes("there are some", plain.explored.list.size() > 10);
            sameAsReference(ExploreBoundaries::tamed, plain);
        });
    }

    private static TriggerAnalyzer tamed() {
        TriggerAnalyzer x = Programs.THOUSAND_THAT_END.make();
        x.rank(5, 0);
        x.rank(0, 6);
        x.turn(7, false);
        return x;
    }

    private static void sameAsReference(Programs.Program program) {
        sameAsReference(program::make, program.exploredReference());
    }

    private static void sameAsReference(Check.Maker maker, ReferenceAnalyzer plain) {
        int count = plain.explored.list.size();
        int rules = plain.rules.size();
        // So few situations an object that no object is asked more than the document allows.
        for (int start = 0; start < count; start += 40) {
            TriggerAnalyzer x = maker.make();
            Check.same("explore", x.explore(), count);
            for (int i = start; i < count && i < start + 40; i++) {
                ReferenceAnalyzer.Situation due = plain.explored.list.get(i);
                Check.same("factsOf " + i, x.factsOf(i), ReferenceAnalyzer.maskOf(due.facts()));
                Check.same("triggeredOf " + i, x.triggeredOf(i), ReferenceAnalyzer.maskOf(due.triggered()));
                for (int rule = 0; rule < rules; rule++) {
                    Check.same("after " + i + ", " + rule, x.after(i, rule), plain.after(i, rule));
                }
            }
        }
        TriggerAnalyzer x = Programs.explored(maker.make());
        Check.same("terminates", x.terminates() ? 1 : 0, plain.terminates() ? 1 : 0);
        Check.same("endCount", x.endCount(), plain.ends().size());
        Check.same("shortest", x.shortest(), plain.shortest());
        Check.same("longest", x.longest(), plain.longest());
        Check.same("ways", x.ways(), plain.ways());
        Check.sameShare("choice", x.choice(), plain.choice());
    }
}
