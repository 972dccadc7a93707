/** What the description says of exceptions, for each method that throws one, or several. */
final class RefusalBoundaries {
    private static final String NOTHING = "A method that throws an exception changes nothing.";
    private static final String FIRST = "If several exceptions apply, the one that is named first is thrown.";

    private RefusalBoundaries() {
    }

    static void addTo(Cases c) {
        changesNothing(c);
        questionsChangeNothing(c);
        firstOfChanging(c);
        firstOfAsking(c);
    }

    /** Full rules, some of them ranked, off, triggered or ready. */
    private static TriggerAnalyzer busy() {
        TriggerAnalyzer x = Programs.full();
        x.rank(2, 1);
        x.rank(1, 0);
        x.turn(5, false);
        x.put(21);
        for (int fact = 0; fact < 6; fact++) {
            x.change(fact, fact % 2 == 1);
        }
        return x;
    }

    private static void changesNothing(Cases c) {
        c.add(0, "a refused addRule changes nothing", NOTHING, () -> {
            Check.refused(Check.INDEX, Programs::diamond, x -> x.addRule(-1, true, 63, 63));
            Check.refused(Check.ARGUMENT, Programs::diamond, x -> x.addRule(5, true, -1, 63));
            Check.refused(Check.ARGUMENT, Programs::diamond, x -> x.addRule(5, true, 63, -1));
            Check.refused(Check.STATE, RefusalBoundaries::busy, x -> x.addRule(5, true, 63, 63));
        });
        c.add(0, "a refused addAction changes nothing", NOTHING, () -> {
            Check.refused(Check.INDEX, Programs::diamond, x -> x.addAction(3, 5, true));
            Check.refused(Check.INDEX, Programs::diamond, x -> x.addAction(0, 6, true));
            Check.refused(Check.STATE, RefusalBoundaries::busy, x -> x.addAction(0, 5, false));
        });
        c.add(0, "a refused turn changes nothing", NOTHING, () -> {
            Check.refused(Check.INDEX, Programs::diamond, x -> x.turn(3, false));
            Check.refused(Check.INDEX, RefusalBoundaries::busy, x -> x.turn(8, false));
            Check.refused(Check.INDEX, RefusalBoundaries::busy, x -> x.turn(-1, false));
        });
        c.add(0, "a refused rank changes nothing", NOTHING, () -> {
            Check.refused(Check.INDEX, RefusalBoundaries::busy, x -> x.rank(7, 8));
            Check.refused(Check.INDEX, RefusalBoundaries::busy, x -> x.rank(-1, 7));
            Check.refused(Check.ARGUMENT, RefusalBoundaries::busy, x -> x.rank(0, 2));
            Check.refused(Check.ARGUMENT, RefusalBoundaries::busy, x -> x.rank(3, 3));
        });
        c.add(0, "a refused put changes nothing", NOTHING, () -> {
            Check.refused(Check.ARGUMENT, RefusalBoundaries::busy, x -> x.put(64));
            Check.refused(Check.ARGUMENT, RefusalBoundaries::busy, x -> x.put(-1));
        });
        c.add(0, "a refused change changes nothing", NOTHING, () -> {
            Check.refused(Check.INDEX, RefusalBoundaries::busy, x -> x.change(6, true));
            Check.refused(Check.INDEX, RefusalBoundaries::busy, x -> x.change(-1, false));
        });
        c.add(0, "a refused play changes nothing", NOTHING, () -> {
            Check.refused(Check.INDEX, RefusalBoundaries::busy, x -> x.play(8));
            Check.refused(Check.STATE, RefusalBoundaries::busy, x -> x.play(5));
            Check.refused(Check.STATE, Programs::diamond, x -> x.play(2));
        });
        c.add(0, "a refused run changes nothing", NOTHING, () -> {
            Check.refused(Check.ARGUMENT, RefusalBoundaries::busy, x -> x.run(501));
            Check.refused(Check.ARGUMENT, RefusalBoundaries::busy, x -> x.run(-1));
        });
    }

    private static void questionsChangeNothing(Cases c) {
        c.add(0, "refused questions about what is not explored change nothing", NOTHING, () -> {
            Check.Call[] calls = {
                x -> x.factsOf(0), x -> x.triggeredOf(0), x -> x.after(0, 0), x -> x.terminates(), x -> x.endCount(),
                x -> x.end(0), x -> x.shortest(), x -> x.longest(), x -> x.ways(), x -> x.isPlayed(0), x -> x.choice()};
            for (Check.Call call : calls) {
                Check.refusedAsItIs(Check.STATE, RefusalBoundaries::busy, call);
                Check.refusedAsItIs(Check.STATE, Programs.ONE_TOO_MANY::makeExplored, call);
            }
        });
        c.add(0, "refused questions about what is explored change nothing", NOTHING, () -> {
            Check.Call[] calls = {
                x -> x.factsOf(1000), x -> x.triggeredOf(-1), x -> x.after(1000, 0), x -> x.after(0, 8),
                x -> x.end(64), x -> x.isPlayed(8)};
            for (Check.Call call : calls) {
                Check.refusedAsItIs(Check.INDEX, Programs.ALL_ENDS::makeExplored, call);
            }
        });
        c.add(0, "refused questions about rules change nothing", NOTHING, () -> {
            Check.refused(Check.INDEX, RefusalBoundaries::busy, x -> x.isAbove(0, 8));
            Check.refused(Check.INDEX, RefusalBoundaries::busy, x -> x.canTrigger(8));
            Check.refused(Check.INDEX, RefusalBoundaries::busy, x -> x.commute(-1, 0));
            Check.refused(Check.ARGUMENT, RefusalBoundaries::busy, x -> x.commute(7, 7));
            Check.refused(Check.INDEX, RefusalBoundaries::busy, x -> x.conflict(28));
        });
    }

    private static void firstOfChanging(Cases c) {
        c.add(0, "addRule: the fact before the sets, and both before full", FIRST, () -> {
            Check.refused(Check.INDEX, Programs::diamond, x -> x.addRule(6, true, 64, 0));
            Check.refused(Check.INDEX, Programs::diamond, x -> x.addRule(-1, true, 0, -1));
            Check.refused(Check.INDEX, Programs::full, x -> x.addRule(6, true, 0, 0));
            Check.refused(Check.INDEX, Programs::full, x -> x.addRule(6, true, 64, 64));
            Check.refused(Check.ARGUMENT, Programs::full, x -> x.addRule(0, true, 64, 0));
            Check.refused(Check.ARGUMENT, Programs::full, x -> x.addRule(0, true, 0, 64));
        });
        c.add(0, "addAction: rule and fact before full", FIRST, () -> {
            Check.refused(Check.INDEX, Programs::full, x -> x.addAction(0, 6, true));
            Check.refused(Check.INDEX, Programs::full, x -> x.addAction(7, -1, true));
            Check.refused(Check.INDEX, Programs::full, x -> x.addAction(8, 6, true));
            Check.refused(Check.INDEX, Programs::full, x -> x.addAction(8, 0, true));
        });
        c.add(0, "rank: no such rule before the same rule", FIRST, () -> {
            Check.refusedEach(Check.INDEX, Programs::full, (x, v) -> x.rank(v, v), 8, 9, -1, Integer.MIN_VALUE);
            Check.refusedEach(Check.INDEX, TriggerAnalyzer::new, (x, v) -> x.rank(v, v), 0, 7, -1);
        });
        c.add(0, "play: no such rule before not ready", FIRST, () -> {
            Check.refusedEach(Check.INDEX, () -> Programs.withRules(8), (x, v) -> x.play(v), 8, -1);
            Check.refusedEach(Check.INDEX, TriggerAnalyzer::new, (x, v) -> x.play(v), 0, 8, -1);
        });
    }

    private static void firstOfAsking(Cases c) {
        c.add(0, "nothing explored before no such situation, end or rule", FIRST, () -> firstIsState(Programs::diamond));
        c.add(0, "no rules and nothing explored before no such situation, end or rule", FIRST,
                () -> firstIsState(TriggerAnalyzer::new));
        c.add(0, "too many situations before no such situation, end or rule", FIRST, () -> {
            firstIsState(Programs.ONE_TOO_MANY::makeExplored);
            firstIsState(Programs.FAR_TOO_MANY::makeExplored);
        });
        c.add(0, "commute: no such rule before the same rule", FIRST, () -> {
            Check.refusedEach(Check.INDEX, Programs::full, (x, v) -> x.commute(v, v), 8, 9, -1, Integer.MIN_VALUE);
            Check.refusedEach(Check.INDEX, TriggerAnalyzer::new, (x, v) -> x.commute(v, v), 0, 7, -1);
        });
    }

    private static void firstIsState(Check.Maker maker) {
        for (int wrong : new int[] {-1, 8, 1000, Integer.MAX_VALUE, Integer.MIN_VALUE}) {
            Check.refusedAsItIs(Check.STATE, maker, x -> x.factsOf(wrong));
            Check.refusedAsItIs(Check.STATE, maker, x -> x.triggeredOf(wrong));
            Check.refusedAsItIs(Check.STATE, maker, x -> x.after(wrong, 0));
            Check.refusedAsItIs(Check.STATE, maker, x -> x.after(0, wrong));
            Check.refusedAsItIs(Check.STATE, maker, x -> x.after(wrong, wrong));
            Check.refusedAsItIs(Check.STATE, maker, x -> x.end(wrong));
            Check.refusedAsItIs(Check.STATE, maker, x -> x.isPlayed(wrong));
        }
    }
}
