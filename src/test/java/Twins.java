import java.util.ArrayList;
import java.util.Arrays;
import java.util.List;
import java.util.Set;

/** A LastTongue and a Plain that are told the same, so that each answer of the one can be held against the other's. */
final class Twins {
    private static final Set<String> LOOKING = Set.of("form", "tell", "fault", "may", "why", "about", "row", "known", "same", "find", "reading", "next",
        "visits", "visited", "copies", "schools", "make", "printed", "granted", "count");

    final LastTongue tongue = new LastTongue();
    Plain plain = new Plain();
    private final List<List<Call>> images = new ArrayList<>(Arrays.asList(null, null, null));
    private List<Call> told = new ArrayList<>();

    /** What Plain answers. It has no images: all calls that led to one are made again. */
    int due(Call call) {
        int k = call.numbers.length == 1 ? call.numbers[0] : -1;
        if (call.name.equals("image")) {
            if (k < 0 || k > 2) return 0;
            images.set(k, new ArrayList<>(told));
            return 1;
        }
        if (call.name.equals("again")) {
            if (k < 0 || k > 2 || images.get(k) == null) return 0;
            told = new ArrayList<>(images.get(k));
            plain = new Plain();
            for (Call c : told) c.of(plain);
            return 1;
        }
        if (!LOOKING.contains(call.name)) told.add(call);
        return call.of(plain);
    }

    /** Both answer; what LastTongue does, if it is what is due. */
    int both(String name, int... numbers) {
        Call call = new Call(name, numbers);
        int want = due(call);
        Checks.due(call.toString(), call.of(tongue), want);
        return want;
    }

    void text(String text) {
        for (int at = 0; at < text.length(); at += 20) {
            int[] n = new int[5];
            for (int i = 0; i < 20; i++) n[i / 4] = n[i / 4] << 8 | (at + i < text.length() ? text.charAt(at + i) : 32);
            both("feed", n);
        }
    }

    void days(int n) { for (int i = 0; i < n; i++) both("day"); }

    /** All that can be looked at, of all there is and of the next that is not. */
    void look() {
        for (int what = -1; what <= 11; what++) both("count", what);
        for (int what = -1; what <= 2; what++) both("fault", what);
        sweep("tell", plain.persons.size(), 13);
        sweep("row", plain.rows.size(), 9);
        sweep("about", plain.tapes.size(), 5);
        sweep("printed", plain.prints.size(), 5);
        sweep("granted", plain.grants.size(), 2);
        sweep("form", plain.tongues.size(), 24);
        sweep("find", plain.tongues.size(), 4);
        sweep("next", plain.tongues.size(), 3);
        for (int what = -1; what <= 3; what++) { both("copies", what); both("schools", 250, what); }
        for (int p = 0; p < plain.persons.size(); p++) {
            for (int what = 0; what <= 3; what++) both("visits", p, 7, what);
            for (int topic = 0; topic <= 4; topic++) both("why", topic, p, (p + 1) % plain.persons.size(), topic);
            for (int topic = 0; topic <= 4; topic++) both("may", topic, p, 0, p);
        }
        for (int t = 0; t < plain.tongues.size(); t++) {
            for (int m = 0; m < 24; m++) both("known", 0, t, m, plain.day);
            for (int d = 0; d <= plain.day; d++) both("known", 5, t, 0, d);
            for (int k = 0; k < 4; k++) both("make", 0, t, 1, k);
        }
        for (int r = 1; r < plain.rows.size(); r++) both("same", r - 1, r);
    }

    private void sweep(String name, int most, int whats) {
        for (int i = -1; i <= most; i++) for (int what = -1; what <= whats; what++) both(name, i, what);
    }
}
