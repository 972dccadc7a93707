/** Tells all that an object answers, now and to the calls that follow, so that two objects can be compared. */
final class Telling {
    private final TriggerAnalyzer x;
    private final int rules;
    private final StringBuilder text = new StringBuilder();

    private Telling(TriggerAnalyzer x) {
        this.x = x;
        this.rules = x.ruleCount();
    }

    /** Takes less than 300 calls, and leaves the object changed. */
    static String all(TriggerAnalyzer x) {
        Telling telling = new Telling(x);
        telling.tellNow();
        telling.tellOrderAndJudgement();
        telling.tellExplored();
        telling.tellWhatFollows();
        return telling.text.toString();
    }

    private void tell(String what, Object answer) {
        text.append(what).append('=').append(answer).append(' ');
    }

    private void tellNow() {
        tell("ruleCount", x.ruleCount());
        tell("facts", x.facts());
        tell("triggered", x.triggered());
        tell("ready", x.ready());
        tell("digest", x.digest());
    }

    private void tellOrderAndJudgement() {
        for (int a = 0; a < rules; a++) {
            tell("canTrigger" + a, x.canTrigger(a));
            for (int b = 0; b < rules; b++) {
                if (a != b) {
                    tell("isAbove" + a + b, x.isAbove(a, b));
                }
                if (a < b) {
                    tell("commute" + a + b, x.commute(a, b));
                }
            }
        }
        tell("circular", x.circular());
        int conflicts = x.conflictCount();
        tell("conflictCount", conflicts);
        for (int i = 0; i < conflicts; i++) {
            tell("conflict" + i, x.conflict(i));
        }
    }

    private void tellExplored() {
        int ends;
        try {
            ends = x.endCount();
        } catch (IllegalStateException e) {
            tell("endCount", "refused");
            return;
        }
        tell("endCount", ends);
        for (int i = 0; i < ends && i < 4; i++) {
            tell("end" + i, x.end(i));
        }
        tell("terminates", x.terminates());
        tell("shortest", x.shortest());
        tell("longest", x.longest());
        tell("ways", x.ways());
        tell("choice", x.choice());
        tell("factsOf0", x.factsOf(0));
        tell("triggeredOf0", x.triggeredOf(0));
        for (int r = 0; r < rules; r++) {
            tell("isPlayed" + r, x.isPlayed(r));
            tell("after0" + r, x.after(0, r));
        }
    }

    private void tellWhatFollows() {
        for (int fact = 0; fact < 6; fact++) {
            tell("change" + fact, x.change(fact, fact % 2 == 0));
            tell("change" + fact, x.change(fact, fact % 2 == 1));
            tell("run", x.run(2));
        }
        for (int r = 0; r < rules; r++) {
            tell("turn" + r, x.turn(r, true));
        }
        if (rules < 8) {
            tell("addRule", x.addRule(0, true, 0, 0));
        }
        tell("explore", x.explore());
        tell("put", x.put(0));
        tell("digest", x.digest());
    }
}
