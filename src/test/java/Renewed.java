import java.util.ArrayList;
import java.util.List;

/**
 * Hands out an object for one call at a time. The document lets an object be used for 512 calls
 * only: then the next call goes to a new one, on which the calls that change it are made again.
 */
final class Renewed {
    static final int MOST_CALLS = 512;

    interface Call {
        long answer(TriggerAnalyzer x);
    }

    private final List<Call> past = new ArrayList<>();
    private TriggerAnalyzer object = new TriggerAnalyzer();
    private int calls;

    /** Makes a call that changes the object, or explores. */
    long change(Call call) {
        long answer = call.answer(toAsk());
        past.add(call);
        return answer;
    }

    /** The object for a call that only asks. */
    TriggerAnalyzer toAsk() {
        if (calls == MOST_CALLS) {
            object = new TriggerAnalyzer();
            for (Call call : past) {
                call.answer(object);
            }
            calls = past.size();
        }
        calls++;
        return object;
    }
}
