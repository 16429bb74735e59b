import java.util.LinkedHashMap;
import java.util.List;
import java.util.Map;

/** All that an object tells without being changed by it, to compare with what it tells later. */
final class State {
    private final Map<String, Long> told = new LinkedHashMap<>();

    State(TypeFold x) {
        for (int what = 0; what <= 6; what++) {
            told.put("look(" + what + ")", (long) x.look(what));
        }
        for (int k = 0; k < x.look(3); k++) {
            told.put("out(" + k + ")", x.out(k));
        }
        for (int i = 0; i <= x.look(0); i++) {
            told.put("bytes(" + i + ")", x.bytes(i));
            for (int j = 0; j <= x.look(0); j++) {
                told.put("apart(" + i + ", " + j + ")", (long) x.apart(i, j));
            }
            if (i > 0) {
                addType(x, i);
            }
        }
    }

    private void addType(TypeFold x, int i) {
        for (int what = 0; what <= 7; what++) {
            told.put("type(" + i + ", " + what + ")", x.type(i, what));
        }
        for (int k = 0; k < x.type(i, 4); k++) {
            told.put("reference(" + i + ", " + k + ")", (long) x.reference(i, k));
        }
        told.put("ring(" + i + ")", (long) x.ring(i));
    }

    /** Every answer is as it was, but for those of the calls that are named. */
    void holds(String what, TypeFold x, String... butFor) {
        Map<String, Long> now = new State(x).told;
        for (String call : told.keySet()) {
            if (!List.of(butFor).contains(call)) {
                Due.is(what + ": " + call, told.get(call), now.getOrDefault(call, Long.MIN_VALUE));
            }
        }
        Due.is(what + ": how many answers", told.size(), now.size());
    }
}
