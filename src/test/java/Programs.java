import java.util.Arrays;

/** The rules that the tests play with. An event or an action is told as 2 times its fact, plus 1 if it is set. */
final class Programs {
    /** A circle, and just as many situations as are not too many. */
    static final Program THOUSAND = new Program(new int[][] {
        {9, 2, 8, 4, 0}, {10, 0, 0, 2, 1, 0}, {3, 0, 0, 6, 2, 7}, {7, 0, 0, 7, 10, 0, 7},
        {4, 0, 0, 11, 4}, {7, 0, 0, 1, 6}, {11, 0, 1, 2, 11, 3, 5}, {11, 0, 0, 1, 9, 5}},
        5, 10, 4, 2, 9, 9);

    /** No circle, and just as many situations as are not too many. */
    static final Program THOUSAND_THAT_END = new Program(new int[][] {
        {3, 0, 0, 6, 6}, {6, 0, 8, 9, 9, 3, 9}, {11, 0, 0, 9, 4, 7}, {9, 8, 0},
        {11, 16, 0, 1, 7, 11, 7}, {3, 0, 17, 2, 1, 0, 7}, {3, 8, 2, 9, 1, 8}, {8, 16, 0, 4, 3, 5, 1}},
        2, 9, 8, 3, 7, 11);

    static final Program ONE_TOO_MANY = new Program(new int[][] {
        {2, 16, 0, 2, 6, 4}, {11, 48, 14, 10, 2, 3, 2}, {3, 0, 0, 0, 6}, {4, 1, 0, 2, 6},
        {3, 0, 0, 2}, {3, 0, 0, 5, 3, 8}, {6, 0, 0, 0, 9, 7}, {9, 8, 0, 11}},
        7, 3);

    /** 7806 situations. */
    static final Program FAR_TOO_MANY = new Program(new int[][] {
        {3, 0, 0, 3, 9}, {2, 0, 0, 11, 11, 10, 2}, {2, 0, 0, 8, 7}, {7, 0, 0, 5, 4},
        {6, 0, 0, 5, 0, 11}, {5, 0, 0, 8, 5, 2}, {8, 0, 0, 6, 11, 8, 11}, {10, 0, 0, 2, 1}},
        1, 0, 1, 3, 5, 7);

    /** More than 1000 situations with seven rules, the first of which is ready and has two actions. */
    static final Program SEVEN_TOO_MANY = new Program(new int[][] {
        {0, 0, 32, 6, 5}, {1, 18, 0}, {4, 0, 4, 1, 5, 3}, {0, 0, 4, 2, 0, 11, 3}, {0, 8, 0, 0, 10},
        {2, 0, 0, 6, 0}, {1, 0, 0, 7, 1, 4}},
        1, 9, 7, 2, 2, 2, 0);

    /** Some 9.7e9 ways: more than 32 bits hold, and less than 64. */
    static final Program MANY_WAYS_UNWRAPPED = new Program(new int[][] {
        {1, 2, 0, 6}, {0, 4, 18, 6, 3}, {4, 32, 0, 5, 9, 1, 5}, {0, 0, 0}, {1, 0, 0, 3, 0},
        {4, 32, 2, 3, 4}, {9, 0, 0, 5, 11, 4, 2}, {8, 34, 8}},
        9, 3, 11, 5, 8, 2, 6, 11, 0);

    /** Some 1.4e31 ways, so that their number wraps around. */
    static final Program MANY_WAYS = new Program(new int[][] {
        {7, 22, 20, 9, 6}, {7, 2, 16, 6, 2, 1, 0}, {0, 8, 22, 7, 6, 0, 7}, {7, 40, 7, 10, 3, 0},
        {7, 13, 35, 5, 2}, {6, 0, 8, 7, 1}, {3, 0, 6, 7, 6, 0}, {7, 20, 46, 8}},
        3, 11, 7, 3);

    /** Every set of facts is an end. */
    static final Program ALL_ENDS = new Program(new int[][] {
        {7, 0, 0, 0}, {7, 0, 0, 2, 9}, {11, 0, 26, 7, 7, 0, 11}, {7, 16, 0, 9, 9, 8},
        {3, 8, 4, 6}, {7, 0, 0, 3, 5}, {7, 8, 0, 9, 5, 1, 4}, {9, 1, 46, 5, 11}},
        2, 5, 8, 8, 3, 7);

    /** The longest way to play takes 389 plays. */
    static final Program LONG_WAY = new Program(new int[][] {
        {1, 0, 0, 0}, {9, 16, 0, 1, 8, 6}, {8, 8, 32, 1, 6}, {7, 0, 33, 7, 1, 0, 1},
        {10, 0, 4, 5, 6, 9}, {0, 12, 19, 1, 4, 9, 6}, {0, 0, 10, 7, 10, 6, 6}, {4, 0, 48, 9, 8, 6, 9}},
        11, 5, 4, 10, 0, 1, 1, 11, 4);

    /** No way to an end takes less than 84 plays. */
    static final Program NO_SHORT_WAY = new Program(new int[][] {
        {8, 48, 8, 0, 10, 7, 9}, {3, 4, 50, 4, 4}, {10, 36, 10, 3, 11, 6}, {4, 2, 40, 0, 1, 11},
        {10, 0, 32, 11, 11, 2}, {6, 48, 5, 6, 10}, {11, 32, 8, 8, 5, 10}, {0, 0, 4, 9, 2, 6, 2}},
        8, 11, 8, 10, 0);

    private Programs() {
    }

    /** Rules (a row each: event, must, mustNot, actions) and the changes that are made then. */
    static final class Program {
        private final int[][] rules;
        private final int[] changes;

        Program(int[][] rules, int... changes) {
            this.rules = rules;
            this.changes = changes;
        }

        TriggerAnalyzer make() {
            TriggerAnalyzer x = new TriggerAnalyzer();
            for (int[] row : rules) {
                rule(x, row[0], row[1], row[2], Arrays.copyOfRange(row, 3, row.length));
            }
            makeChanges(x);
            return x;
        }

        TriggerAnalyzer makeExplored() {
            return explored(make());
        }

        /** How many calls make() takes. */
        int callCount() {
            int calls = rules.length + changes.length;
            for (int[] row : rules) {
                calls += row.length - 3;
            }
            return calls;
        }

        void makeChanges(TriggerAnalyzer x) {
            for (int change : changes) {
                x.change(change / 2, change % 2 == 1);
            }
        }

        ReferenceAnalyzer makeReference() {
            ReferenceAnalyzer plain = new ReferenceAnalyzer();
            for (int[] row : rules) {
                int number = plain.addRule(row[0] / 2, row[0] % 2 == 1, row[1], row[2]);
                for (int k = 3; k < row.length; k++) {
                    plain.addAction(number, row[k] / 2, row[k] % 2 == 1);
                }
            }
            for (int change : changes) {
                plain.change(change / 2, change % 2 == 1);
            }
            return plain;
        }

        ReferenceAnalyzer exploredReference() {
            ReferenceAnalyzer plain = makeReference();
            plain.explore();
            return plain;
        }
    }

    static int rule(TriggerAnalyzer x, int event, int must, int mustNot, int... actions) {
        int number = x.addRule(event / 2, event % 2 == 1, must, mustNot);
        for (int action : actions) {
            x.addAction(number, action / 2, action % 2 == 1);
        }
        return number;
    }

    static TriggerAnalyzer program(int[][] rules, int... changes) {
        return new Program(rules, changes).make();
    }

    static TriggerAnalyzer explored(TriggerAnalyzer x) {
        x.explore();
        return x;
    }

    /** So many rules, all of them without actions, with the event that fact 0 becomes set. */
    static TriggerAnalyzer withRules(int count) {
        TriggerAnalyzer x = new TriggerAnalyzer();
        for (int i = 0; i < count; i++) {
            x.addRule(0, true, 0, 0);
        }
        return x;
    }

    /** The same rules, all of them triggered. */
    static TriggerAnalyzer triggered(int count) {
        TriggerAnalyzer x = withRules(count);
        x.change(0, true);
        return x;
    }

    /** Setting fact 0 triggers 0 and 1; 0 sets 1 and thereby triggers 2, 1 unsets 1. */
    static TriggerAnalyzer diamond() {
        return program(new int[][] {{1, 0, 0, 3}, {1, 0, 0, 2}, {3, 0, 0, 5}}, 1);
    }

    /** Rule 0 sets and unsets fact 1 and so triggers itself again and again. */
    static TriggerAnalyzer circle() {
        return program(new int[][] {{3, 0, 0, 2, 3}}, 3);
    }

    /** Rule 0 may play for ever on its own event, until rule 1 unsets what its condition needs. */
    static TriggerAnalyzer circleWithEnd() {
        return program(new int[][] {{1, 2, 0, 0, 1}, {1, 0, 0, 2}}, 3, 1);
    }

    /** If rule 1 plays first, rule 0's condition is false, and it triggers rule 2 no more. */
    static TriggerAnalyzer detour() {
        return program(new int[][] {{1, 0, 2, 5}, {1, 0, 0, 3}, {5, 0, 0}}, 1);
    }

    /** Eight rules of four actions each. */
    static TriggerAnalyzer full() {
        TriggerAnalyzer x = new TriggerAnalyzer();
        for (int i = 0; i < 8; i++) {
            rule(x, 11 - i, 63 - i, i, i, i + 1, i + 2, i + 3);
        }
        return x;
    }
}
