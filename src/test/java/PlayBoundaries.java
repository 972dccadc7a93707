/** Playing: its part of the description, and promises 8 to 14. */
final class PlayBoundaries {
    private static final int[] TOO_SMALL = {-1, -2, Integer.MIN_VALUE};
    private static final int[] TOO_LARGE_FACTS = {6, 7, 8, 32, 64, Integer.MAX_VALUE};
    private static final int[] TOO_LARGE_SETS = {64, 65, 128, Integer.MAX_VALUE};

    private PlayBoundaries() {
    }

    static void addTo(Cases c) {
        describeTriggering(c);
        describeReady(c);
        describePlay(c);
        put(c);
        change(c);
        sets(c);
        play(c);
        playRefuses(c);
        run(c);
    }

    private static void describeTriggering(Cases c) {
        String sentence = "When a fact is set that was not, or unset that was set, all rules that are on and have this "
                + "event are triggered (a rule that is triggered already stays so).";
        c.add(0, "a fact that is set already triggers nothing when it is set", sentence, () -> {
            TriggerAnalyzer x = Programs.withRules(1);
            x.put(1);
            Check.same("change", x.change(0, true), 0);
            Check.same("facts", x.facts(), 1);
        });
        c.add(0, "a fact that is unset already triggers nothing when it is unset", sentence, () -> {
            TriggerAnalyzer x = Programs.program(new int[][] {{0, 0, 0}});
            Check.same("change", x.change(0, false), 0);
            Check.same("facts", x.facts(), 0);
        });
        c.add(0, "the same holds for actions", sentence, () -> {
            TriggerAnalyzer x = Programs.program(new int[][] {{1, 0, 0, 3, 4}, {3, 0, 0}, {4, 0, 0}});
            x.put(2);
            x.change(0, true);
            x.play(0);
            Check.same("triggered", x.triggered(), 0);
        });
        c.add(0, "one change triggers all eight rules, and keeps all eight triggered", sentence, () -> {
            TriggerAnalyzer x = Programs.withRules(8);
            Check.same("set", x.change(0, true), 255);
            Check.same("unset", x.change(0, false), 255);
            Check.same("set again", x.change(0, true), 255);
        });
        c.add(0, "the opposite event, or that of another fact, triggers nothing", sentence, () -> {
            for (int event = 0; event < 12; event++) {
                TriggerAnalyzer x = Programs.program(new int[][] {{event, 0, 0}});
                for (int fact = 0; fact < 6; fact++) {
                    Check.same("set " + fact, x.change(fact, true), event == 2 * fact + 1 ? 1 : 0);
                    x.put(1 << fact);
                    Check.same("unset " + fact, x.change(fact, false), event == 2 * fact ? 1 : 0);
                    x.put(0);
                }
            }
        });
        c.add(0, "a rule that is off is not triggered by an action either", sentence, () -> {
            TriggerAnalyzer x = Programs.program(new int[][] {{1, 0, 0, 3}, {3, 0, 0}, {3, 0, 0}}, 1);
            x.turn(1, false);
            x.play(0);
            Check.same("triggered", x.triggered(), 4);
        });
        c.add(0, "a rule whose condition is false is triggered, too", sentence, () -> {
            TriggerAnalyzer x = Programs.program(new int[][] {{1, 63, 63}});
            Check.same("change", x.change(0, true), 1);
        });
    }

    private static void describeReady(Cases c) {
        String sentence = "A rule is ready if it is triggered, and no other triggered rule is above it.";
        c.add(0, "none triggered: none ready", sentence, () -> Check.same("ready", Programs.withRules(8).ready(), 0));
        c.add(0, "all triggered and no order: all ready", sentence,
                () -> Check.same("ready", Programs.triggered(8).ready(), 255));
        c.add(0, "all triggered and a full order: one ready", sentence, () -> {
            TriggerAnalyzer x = Programs.triggered(8);
            for (int i = 7; i > 0; i--) {
                x.rank(i, i - 1);
            }
            Check.same("ready", x.ready(), 128);
        });
        c.add(0, "a rule above that is not triggered does not matter", sentence, () -> {
            TriggerAnalyzer x = Programs.program(new int[][] {{1, 0, 0}, {3, 0, 0}}, 1);
            x.rank(1, 0);
            Check.same("ready", x.ready(), 1);
            x.change(1, true);
            Check.same("ready", x.ready(), 2);
        });
        c.add(0, "above by way of a rule that is not triggered, or off", sentence, () -> {
            TriggerAnalyzer x = Programs.program(new int[][] {{1, 0, 0}, {3, 0, 0}, {1, 0, 0}}, 1);
            x.rank(2, 1);
            x.rank(1, 0);
            Check.same("not triggered", x.ready(), 4);
            x.turn(1, false);
            Check.same("off", x.ready(), 4);
        });
    }

    private static void describePlay(Cases c) {
        String sentence = "To play a ready rule means: it is triggered no more; if its condition is true then, its "
                + "actions are done in order, and what they change triggers rules, perhaps itself.";
        c.add(0, "a false condition: triggered no more, and nothing done", sentence, () -> {
            TriggerAnalyzer x = Programs.program(new int[][] {{1, 2, 0, 5}, {1, 0, 1, 5}}, 1);
            x.play(0);
            x.play(1);
            Check.same("triggered", x.triggered(), 0);
            Check.same("facts", x.facts(), 1);
        });
        c.add(0, "a rule that triggers itself by its own last action is triggered again", sentence, () -> {
            TriggerAnalyzer x = Programs.program(new int[][] {{1, 0, 0, 3, 5, 0, 1}}, 1);
            x.play(0);
            Check.same("triggered", x.triggered(), 1);
            Check.same("facts", x.facts(), 7);
        });
        c.add(0, "the condition counts before the actions, not between them", sentence, () -> {
            TriggerAnalyzer x = Programs.program(new int[][] {{1, 1, 2, 0, 3, 5}}, 1);
            Check.yes("play", x.play(0));
            Check.same("facts", x.facts(), 6);
        });
        c.add(0, "actions that undo each other leave the facts and trigger all the same", sentence, () -> {
            TriggerAnalyzer x = Programs.program(new int[][] {{1, 0, 0, 3, 2}, {3, 0, 0}, {2, 0, 0}}, 1);
            x.play(0);
            Check.same("facts", x.facts(), 1);
            Check.same("triggered", x.triggered(), 6);
        });
        c.add(0, "the other order of the same actions", sentence, () -> {
            TriggerAnalyzer x = Programs.program(new int[][] {{1, 0, 0, 2, 3}, {3, 0, 0}, {2, 0, 0}}, 1);
            x.play(0);
            Check.same("facts", x.facts(), 3);
            Check.same("triggered", x.triggered(), 2);
        });
    }

    private static void put(Cases c) {
        String makes = "Makes just these facts set, without triggering anything; rules that are triggered are so no more.";
        c.add(8, "put, each of the 64 sets", makes, () -> {
            TriggerAnalyzer x = new TriggerAnalyzer();
            for (int set = 63; set >= 0; set--) {
                x.put(set);
                Check.same("facts", x.facts(), set);
            }
        });
        c.add(8, "put, all facts change at once, and nothing is triggered", makes, () -> {
            TriggerAnalyzer x = new TriggerAnalyzer();
            for (int i = 0; i < 8; i++) {
                x.addRule(i % 6, i < 6, 0, 0);
            }
            x.put(63);
            Check.same("triggered by setting", x.triggered(), 0);
            x.put(0);
            Check.same("triggered by unsetting", x.triggered(), 0);
        });
        c.add(8, "put, all eight rules are triggered no more, also if no fact changes", makes, () -> {
            TriggerAnalyzer x = Programs.triggered(8);
            Check.same("put", x.put(1), 1);
            Check.same("triggered", x.triggered(), 0);
            Check.same("ready", x.ready(), 0);
        });
        c.add(8, "put, rules stay as they are", makes, () -> {
            TriggerAnalyzer x = Programs.withRules(2);
            x.turn(0, false);
            x.rank(1, 0);
            x.put(0);
            Check.yes("isAbove", x.isAbove(1, 0));
            Check.same("change", x.change(0, true), 2);
        });
        String before = "Returns the facts that were set before.";
        c.add(8, "put, none before, all before, the same before", before, () -> {
            TriggerAnalyzer x = new TriggerAnalyzer();
            Check.same("none", x.put(63), 0);
            Check.same("all", x.put(42), 63);
            Check.same("the same", x.put(42), 42);
            x.change(0, true);
            Check.same("changed", x.put(0), 43);
        });
        String argument = Cases.argument("facts is not 0 to 63");
        c.add(8, "put, facts too small", argument, () -> Check.refusedEach(Check.ARGUMENT, Programs::diamond,
                (x, v) -> x.put(v), TOO_SMALL));
        c.add(8, "put, facts too large", argument, () -> Check.refusedEach(Check.ARGUMENT, Programs::diamond,
                (x, v) -> x.put(v), TOO_LARGE_SETS));
        c.add(8, "put, 0 and 63 are taken", argument, () -> {
            TriggerAnalyzer x = new TriggerAnalyzer();
            Check.same("63", x.put(63), 0);
            Check.same("0", x.put(0), 63);
        });
    }

    private static void change(Cases c) {
        String sets = "Sets or unsets a fact.";
        c.add(9, "change, each fact alone, set and unset, twice each", sets, () -> {
            for (int fact = 0; fact < 6; fact++) {
                TriggerAnalyzer x = new TriggerAnalyzer();
                x.put(63 - (1 << fact));
                x.change(fact, true);
                Check.same("set", x.facts(), 63);
                x.change(fact, true);
                Check.same("set again", x.facts(), 63);
                x.put(1 << fact);
                x.change(fact, false);
                Check.same("unset", x.facts(), 0);
                x.change(fact, false);
                Check.same("unset again", x.facts(), 0);
            }
        });
        String returns = "Returns the set of the rules that are triggered then.";
        c.add(9, "change, none triggered, all triggered, those from before", returns, () -> {
            TriggerAnalyzer x = Programs.withRules(8);
            Check.same("none", x.change(1, true), 0);
            Check.same("all", x.change(0, true), 255);
            Check.same("from before", x.change(2, true), 255);
            x.play(0);
            Check.same("from before, without one", x.change(0, true), 254);
        });
        c.add(9, "change, triggered rules are told, not the ready ones", returns, () -> {
            TriggerAnalyzer x = Programs.withRules(2);
            x.rank(1, 0);
            Check.same("change", x.change(0, true), 3);
        });
        String index = Cases.index("fact is not 0 to 5");
        c.add(9, "change, fact too small", index, () -> Check.refusedEach(Check.INDEX, Programs::diamond,
                (x, v) -> x.change(v, true), TOO_SMALL));
        c.add(9, "change, fact too large", index, () -> {
            Check.refusedEach(Check.INDEX, Programs::diamond, (x, v) -> x.change(v, true), TOO_LARGE_FACTS);
            Check.refusedEach(Check.INDEX, Programs::diamond, (x, v) -> x.change(v, false), TOO_LARGE_FACTS);
        });
        c.add(9, "change, the least and the greatest fact are taken", index, () -> {
            TriggerAnalyzer x = new TriggerAnalyzer();
            x.change(0, true);
            x.change(5, true);
            Check.same("facts", x.facts(), 33);
        });
    }

    private static void sets(Cases c) {
        c.add(10, "facts, none and all", "Returns the set of the facts that are set.", () -> {
            TriggerAnalyzer x = new TriggerAnalyzer();
            Check.same("none", x.facts(), 0);
            x.put(63);
            Check.same("all", x.facts(), 63);
        });
        c.add(11, "triggered, none and all", "Returns the set of the rules that are triggered.", () -> {
            TriggerAnalyzer x = Programs.withRules(8);
            Check.same("none", x.triggered(), 0);
            x.change(0, true);
            Check.same("all", x.triggered(), 255);
            for (int rule = 7; rule >= 0; rule--) {
                x.play(rule);
                Check.same("one less", x.triggered(), (1 << rule) - 1);
            }
        });
        c.add(12, "ready, none and all", "Returns the set of the rules that are ready.", () -> {
            TriggerAnalyzer x = Programs.withRules(8);
            Check.same("none", x.ready(), 0);
            x.change(0, true);
            Check.same("all", x.ready(), 255);
            x.rank(3, 4);
            Check.same("all but one", x.ready(), 255 - 16);
        });
        c.add(12, "ready, no rules at all", "Returns the set of the rules that are ready.",
                () -> Check.same("ready", new TriggerAnalyzer().ready(), 0));
    }

    private static void play(Cases c) {
        String plays = "Plays a ready rule.";
        c.add(13, "play, each of eight ready rules", plays, () -> {
            for (int rule = 0; rule < 8; rule++) {
                TriggerAnalyzer x = Programs.triggered(8);
                x.play(rule);
                Check.same("triggered", x.triggered(), 255 - (1 << rule));
            }
        });
        c.add(13, "play, a full rule that sets all it can", plays, () -> {
            TriggerAnalyzer x = Programs.program(new int[][] {{1, 0, 0, 3, 5, 7, 11}}, 1);
            x.play(0);
            Check.same("facts", x.facts(), 1 + 2 + 4 + 8 + 32);
        });
        String returns = "Returns whether its condition was true.";
        c.add(13, "play, true without actions, and though the actions make it false", returns, () -> {
            TriggerAnalyzer x = Programs.program(new int[][] {{1, 0, 0}, {1, 1, 0, 0}}, 1);
            Check.yes("without actions", x.play(0));
            Check.yes("made false by its actions", x.play(1));
        });
        c.add(13, "play, false with one fact missing or one too much", returns, () -> {
            TriggerAnalyzer x = Programs.program(new int[][] {{1, 62, 0, 0}, {1, 0, 62, 0}}, 1);
            Check.no("missing", x.play(0));
            x.put(2);
            x.change(0, true);
            Check.no("one too much", x.play(1));
        });
    }

    private static void playRefuses(Cases c) {
        String index = Cases.index("there is no such rule");
        c.add(13, "play, rule too small", index, () -> Check.refusedEach(Check.INDEX, Programs::diamond,
                (x, v) -> x.play(v), TOO_SMALL));
        c.add(13, "play, rule too large", index, () -> Check.refusedEach(Check.INDEX, Programs::diamond,
                (x, v) -> x.play(v), 3, 4, 8, 32, 33, Integer.MAX_VALUE));
        c.add(13, "play, rule too large behind eight rules", index, () -> Check.refusedEach(Check.INDEX,
                () -> Programs.triggered(8), (x, v) -> x.play(v), 8, 9, 32, Integer.MAX_VALUE));
        c.add(13, "play, no rules at all", index, () -> Check.refusedEach(Check.INDEX, TriggerAnalyzer::new,
                (x, v) -> x.play(v), 0, 7, -1));
        String state = Cases.state("it is not ready");
        c.add(13, "play, not triggered", state, () -> Check.refused(Check.STATE, Programs::diamond, x -> x.play(2)));
        c.add(13, "play, nothing is triggered", state, () -> Check.refusedEach(Check.STATE,
                () -> Programs.withRules(8), (x, v) -> x.play(v), 0, 1, 2, 3, 4, 5, 6, 7));
        c.add(13, "play, triggered, but one above it is, too", state, () -> Check.refused(Check.STATE, () -> {
            TriggerAnalyzer x = Programs.triggered(2);
            x.rank(1, 0);
            return x;
        }, x -> x.play(0)));
        c.add(13, "play, triggered, but one above it by way of an untriggered one is, too", state,
                () -> Check.refused(Check.STATE, () -> {
                    TriggerAnalyzer x = Programs.program(new int[][] {{1, 0, 0}, {3, 0, 0}, {1, 0, 0}}, 1);
                    x.rank(0, 1);
                    x.rank(1, 2);
                    return x;
                }, x -> x.play(2)));
        c.add(13, "play, a second time", state, () -> Check.refused(Check.STATE, () -> {
            TriggerAnalyzer x = Programs.triggered(1);
            x.play(0);
            return x;
        }, x -> x.play(0)));
        c.add(13, "play, turned off while it was triggered", state, () -> Check.refused(Check.STATE, () -> {
            TriggerAnalyzer x = Programs.triggered(1);
            x.turn(0, false);
            return x;
        }, x -> x.play(0)));
    }

    private static void run(Cases c) {
        String plays = "Plays the ready rule with the smallest number, again and again, until no rule is triggered, "
                + "or as many were played as are allowed.";
        c.add(14, "run, none allowed: nothing is played", plays, () -> {
            TriggerAnalyzer x = Programs.triggered(8);
            Check.same("run", x.run(0), 0);
            Check.same("triggered", x.triggered(), 255);
        });
        c.add(14, "run, one less than, just as many as, and more than can be played", plays, () -> {
            TriggerAnalyzer less = Programs.triggered(8);
            less.run(7);
            Check.same("one less", less.triggered(), 128);
            TriggerAnalyzer equal = Programs.triggered(8);
            equal.run(8);
            Check.same("just as many", equal.triggered(), 0);
            TriggerAnalyzer more = Programs.triggered(8);
            Check.same("one more", more.run(9), 8);
            Check.same("nothing left", more.triggered(), 0);
        });
        c.add(14, "run, the smallest of the ready ones, not of the triggered ones", plays, () -> {
            TriggerAnalyzer x = Programs.triggered(4);
            x.rank(3, 0);
            x.rank(2, 1);
            Check.same("run", x.run(1), 1);
            Check.same("triggered", x.triggered(), 1 + 2 + 8);
        });
        c.add(14, "run, a small rule that is triggered anew is played before greater ones", plays, () -> {
            TriggerAnalyzer x = Programs.program(new int[][] {{3, 0, 0}, {1, 0, 0, 3}, {1, 0, 0}}, 1);
            x.run(2);
            Check.same("triggered", x.triggered(), 4);
        });
        c.add(14, "run, plays with a false condition count and go on", plays, () -> {
            TriggerAnalyzer x = Programs.program(new int[][] {{1, 63, 0, 3}, {1, 0, 0, 5}}, 1);
            Check.same("run", x.run(1), 1);
            Check.same("facts", x.facts(), 1);
            Check.same("run on", x.run(500), 1);
            Check.same("facts then", x.facts(), 5);
        });
        String returns = "Returns how many were played.";
        c.add(14, "run, nothing triggered: none", returns, () -> {
            Check.same("no rules", new TriggerAnalyzer().run(500), 0);
            Check.same("eight rules", Programs.withRules(8).run(500), 0);
        });
        c.add(14, "run, a circle: all that are allowed", returns, () -> {
            for (int most : new int[] {0, 1, 2, 255, 256, 499, 500}) {
                Check.same("run " + most, Programs.circle().run(most), most);
            }
        });
        c.add(14, "run, an end that is met by the last play allowed", returns,
                () -> Check.same("run", Programs.triggered(8).run(8), 8));
        String argument = Cases.argument("most is not 0 to 500");
        c.add(14, "run, most too small", argument, () -> Check.refusedEach(Check.ARGUMENT, Programs::diamond,
                (x, v) -> x.run(v), TOO_SMALL));
        c.add(14, "run, most too large", argument, () -> Check.refusedEach(Check.ARGUMENT, Programs::circle,
                (x, v) -> x.run(v), 501, 502, 512, 1000, Integer.MAX_VALUE));
        c.add(14, "run, most too large though nothing is triggered", argument,
                () -> Check.refused(Check.ARGUMENT, TriggerAnalyzer::new, x -> x.run(501)));
        c.add(14, "run, 0 and 500 are taken", argument, () -> {
            Check.same("0", Programs.circle().run(0), 0);
            Check.same("500", Programs.circle().run(500), 500);
        });
    }
}
