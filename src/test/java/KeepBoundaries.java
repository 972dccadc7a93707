/** How long what was explored is kept, and the questions that are refused without it (promises 16 to 26). */
final class KeepBoundaries {
    private static final String KEPT = "What was explored is kept until the next call of addRule, addAction, turn, rank, "
            + "put, change, play or run that throws no exception (also if it changes nothing).";
    private static final String UNEXPLORED =
            Cases.state("nothing was explored since the last change, or there were too many situations");

    private record Named(String name, Check.Call call) {
    }

    private record Question(int promise, String name, Check.Call call) {
    }

    private static final Named[] CHANGES = {
        new Named("addRule", x -> x.addRule(0, true, 0, 0)),
        new Named("addAction", x -> x.addAction(0, 0, true)),
        new Named("turn", x -> x.turn(0, false)),
        new Named("rank", x -> x.rank(0, 1)),
        new Named("put", x -> x.put(42)),
        new Named("change", x -> x.change(5, true)),
        new Named("play", x -> x.play(0)),
        new Named("run", x -> x.run(1))};

    /** On idle(), none of these changes anything. */
    private static final Named[] IDLE_CHANGES = {
        new Named("turn, on that is on", x -> x.turn(0, true)),
        new Named("turn, off that is off", x -> x.turn(2, false)),
        new Named("rank, known", x -> x.rank(0, 1)),
        new Named("rank, known by way of another", x -> x.rank(0, 2)),
        new Named("change, set that is set", x -> x.change(1, true)),
        new Named("change, unset that is unset", x -> x.change(5, false)),
        new Named("play, a rule that leads to the same situation", x -> x.play(0)),
        new Named("run, none allowed", x -> x.run(0)),
        new Named("run, a circle", x -> x.run(3))};

    private static final Named[] REFUSED = {
        new Named("addRule, no such fact", x -> x.addRule(6, true, 0, 0)),
        new Named("addRule, no such set", x -> x.addRule(0, true, 0, 64)),
        new Named("addAction, no such rule", x -> x.addAction(3, 0, true)),
        new Named("addAction, no such fact", x -> x.addAction(0, -1, true)),
        new Named("turn, no such rule", x -> x.turn(3, false)),
        new Named("rank, no such rule", x -> x.rank(0, 3)),
        new Named("rank, the same rule", x -> x.rank(1, 1)),
        new Named("put, no such set", x -> x.put(64)),
        new Named("change, no such fact", x -> x.change(6, true)),
        new Named("play, no such rule", x -> x.play(3)),
        new Named("play, not ready", x -> x.play(2)),
        new Named("run, too many", x -> x.run(501)),
        new Named("run, too few", x -> x.run(-1))};

    private static final Named[] ASKING = {
        new Named("isAbove", x -> x.isAbove(0, 1)),
        new Named("ruleCount", x -> x.ruleCount()),
        new Named("facts", x -> x.facts()),
        new Named("triggered", x -> x.triggered()),
        new Named("ready", x -> x.ready()),
        new Named("explore", x -> x.explore()),
        new Named("canTrigger", x -> x.canTrigger(0)),
        new Named("circular", x -> x.circular()),
        new Named("commute", x -> x.commute(0, 1)),
        new Named("conflictCount", x -> x.conflictCount()),
        new Named("conflict", x -> x.conflict(0)),
        new Named("digest", x -> x.digest())};

    private static final Question[] QUESTIONS = {
        new Question(16, "factsOf", x -> x.factsOf(0)),
        new Question(17, "triggeredOf", x -> x.triggeredOf(0)),
        new Question(18, "after", x -> x.after(0, 0)),
        new Question(19, "terminates", x -> x.terminates()),
        new Question(20, "endCount", x -> x.endCount()),
        new Question(21, "end", x -> x.end(0)),
        new Question(22, "shortest", x -> x.shortest()),
        new Question(23, "longest", x -> x.longest()),
        new Question(24, "ways", x -> x.ways()),
        new Question(25, "isPlayed", x -> x.isPlayed(0)),
        new Question(26, "choice", x -> x.choice())};

    private KeepBoundaries() {
    }

    static void addTo(Cases c) {
        forgotten(c);
        kept(c);
        tooMany(c);
        for (Question question : QUESTIONS) {
            refuses(c, question);
        }
    }

    private static TriggerAnalyzer exploredDiamond() {
        return Programs.explored(Programs.diamond());
    }

    /** Rule 0 leads from the present situation to the same one; rule 2 is off. */
    private static TriggerAnalyzer idle() {
        TriggerAnalyzer x = Programs.program(new int[][] {{3, 0, 0, 2, 3}, {1, 0, 0}, {1, 0, 0}}, 3);
        x.turn(2, false);
        x.rank(0, 1);
        x.rank(1, 2);
        return x;
    }

    private static void forgotten(Cases c) {
        for (Named change : CHANGES) {
            c.add(0, "explored is forgotten by " + change.name, KEPT, () -> {
                TriggerAnalyzer x = exploredDiamond();
                change.call.make(x);
                isForgotten(x);
                Check.yes("explore", x.explore() > 0);
                Check.yes("endCount", x.endCount() > 0);
            });
            c.add(0, "too many situations are forgotten by " + change.name, KEPT, () -> {
                TriggerAnalyzer x = Programs.SEVEN_TOO_MANY.make();
                Check.same("explore", x.explore(), -1);
                change.call.make(x);
                TriggerAnalyzer unexplored = Programs.SEVEN_TOO_MANY.make();
                change.call.make(unexplored);
                Check.same("digest", x.digest(), unexplored.digest());
                isForgotten(x);
            });
        }
        for (Named change : IDLE_CHANGES) {
            c.add(0, "explored is forgotten, though nothing changes, by " + change.name, KEPT, () -> {
                TriggerAnalyzer x = idle();
                long before = x.digest();
                x.explore();
                change.call.make(x);
                Check.same("digest", x.digest(), before);
                isForgotten(x);
            });
        }
        c.add(0, "explored is forgotten, though nothing changes, by put of the same facts", KEPT, () -> {
            TriggerAnalyzer x = new TriggerAnalyzer();
            x.put(42);
            long before = x.digest();
            x.explore();
            x.put(42);
            Check.same("digest", x.digest(), before);
            isForgotten(x);
        });
        c.add(0, "explored is forgotten, though nothing changes, by run at an end", KEPT, () -> {
            TriggerAnalyzer x = Programs.explored(new TriggerAnalyzer());
            Check.same("run", x.run(500), 0);
            isForgotten(x);
        });
    }

    private static void isForgotten(TriggerAnalyzer x) {
        try {
            x.endCount();
        } catch (IllegalStateException e) {
            return;
        }
        throw new AssertionError("what was explored is not forgotten");
    }

    private static void kept(Cases c) {
        for (Named call : REFUSED) {
            c.add(0, "explored is kept by a refused call of " + call.name, KEPT, () -> {
                TriggerAnalyzer x = exploredDiamond();
                long before = x.digest();
                isRefused(x, call.call);
                Check.same("endCount", x.endCount(), 2);
                Check.same("factsOf", x.factsOf(7), 7);
                Check.same("digest", x.digest(), before);
            });
        }
        for (Named call : ASKING) {
            c.add(0, "explored is kept by " + call.name, KEPT, () -> {
                TriggerAnalyzer x = exploredDiamond();
                long before = x.digest();
                call.call.make(x);
                Check.same("endCount", x.endCount(), 2);
                Check.same("digest", x.digest(), before);
            });
        }
        for (Question question : QUESTIONS) {
            c.add(0, "explored is kept by " + question.name, KEPT, () -> {
                TriggerAnalyzer x = exploredDiamond();
                long before = x.digest();
                question.call.make(x);
                question.call.make(x);
                Check.same("endCount", x.endCount(), 2);
                Check.same("digest", x.digest(), before);
            });
        }
    }

    private static void isRefused(TriggerAnalyzer x, Check.Call call) {
        boolean isRefused = false;
        try {
            call.make(x);
        } catch (IndexOutOfBoundsException | IllegalArgumentException | IllegalStateException e) {
            isRefused = true;
        }
        Check.yes("the call is refused", isRefused);
    }

    private static void tooMany(Cases c) {
        c.add(0, "too many situations are kept by refused calls and by questions", KEPT, () -> {
            TriggerAnalyzer x = Programs.ONE_TOO_MANY.make();
            long due = x.digest() * 31 - 1;
            x.explore();
            isRefused(x, y -> y.addRule(0, true, 0, 0));
            isRefused(x, y -> y.put(64));
            isRefused(x, y -> y.run(501));
            isRefused(x, y -> y.factsOf(0));
            x.facts();
            x.conflictCount();
            Check.same("digest", x.digest(), due);
            Check.same("explore", x.explore(), -1);
        });
    }

    private static void refuses(Cases c, Question question) {
        int promise = question.promise;
        String name = question.name;
        c.add(promise, name + ", nothing was ever explored", UNEXPLORED, () -> {
            Check.refusedAsItIs(Check.STATE, Programs::diamond, question.call);
            Check.refusedAsItIs(Check.STATE, () -> Programs.withRules(8), question.call);
            Check.refusedAsItIs(Check.STATE, TriggerAnalyzer::new, question.call);
        });
        c.add(promise, name + ", explored before the last change", UNEXPLORED, () -> {
            for (Named change : CHANGES) {
                Check.refusedAsItIs(Check.STATE, () -> {
                    TriggerAnalyzer x = exploredDiamond();
                    change.call.make(x);
                    return x;
                }, question.call);
            }
        });
        c.add(promise, name + ", explored before a call that changed nothing", UNEXPLORED, () -> {
            for (Named change : IDLE_CHANGES) {
                Check.refusedAsItIs(Check.STATE, () -> {
                    TriggerAnalyzer x = Programs.explored(idle());
                    change.call.make(x);
                    return x;
                }, question.call);
            }
        });
        c.add(promise, name + ", 1001 situations, and 7806", UNEXPLORED, () -> {
            Check.refusedAsItIs(Check.STATE, Programs.ONE_TOO_MANY::makeExplored, question.call);
            Check.refusedAsItIs(Check.STATE, Programs.FAR_TOO_MANY::makeExplored, question.call);
        });
        c.add(promise, name + ", too many situations after few", UNEXPLORED, () -> Check.refusedAsItIs(Check.STATE, () -> {
            TriggerAnalyzer x = Programs.ONE_TOO_MANY.make();
            x.put(0);
            x.explore();
            Programs.ONE_TOO_MANY.makeChanges(x);
            return Programs.explored(x);
        }, question.call));
        c.add(promise, name + ", answered for just 1000 situations", UNEXPLORED,
                () -> question.call.make(Programs.THOUSAND_THAT_END.makeExplored()));
        c.add(promise, name + ", answered when explored again, after a change and after too many", UNEXPLORED, () -> {
            TriggerAnalyzer x = exploredDiamond();
            x.change(5, true);
            question.call.make(Programs.explored(x));
            TriggerAnalyzer y = Programs.FAR_TOO_MANY.makeExplored();
            y.put(0);
            question.call.make(Programs.explored(y));
        });
    }
}
