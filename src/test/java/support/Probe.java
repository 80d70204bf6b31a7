import java.util.ArrayList;
import java.util.List;

/**
 * All that can be seen of an object: how it stands, its ACTS undone one by one,
 * its RULES run, its IMAGES gone back to, its TAPE read. The object is used up
 * by that, so two that are told the same are looked through side by side.
 */
final class Probe {
    private final TurnRing x;
    private final List<String> seen = new ArrayList<>();

    private Probe(TurnRing x) {
        this.x = x;
    }

    static List<String> of(TurnRing x) {
        Probe p = new Probe(x);
        p.standing("now");
        p.diary();
        p.acts();
        p.rules();
        p.images();
        p.tape();
        return p.seen;
    }

    /** Holds that nothing can be told from one that is told the same but for a call. */
    static void same(String call, TurnRing x, TurnRing other) {
        List<String> got = of(x);
        List<String> want = of(other);
        int at = 0;
        while (at < got.size() && at < want.size() && got.get(at).equals(want.get(at))) at++;
        String differs = got.equals(want) ? "" : ", but " + (at < got.size() ? got.get(at) : "less is seen")
                + " in place of " + (at < want.size() ? want.get(at) : "nothing more");
        Checks.due(call + ": nothing else is changed" + differs, got.equals(want), true);
    }

    private void add(String what, long value) {
        seen.add(what + " = " + value);
    }

    private void counts(String when) {
        for (int what = 0; what <= 14; what++) add(when + ": count " + what, x.count(what));
        for (int h = 0; h < x.count(0); h++) add(when + ": slot of house " + h, x.house(h, 0));
        for (int spoke = 0; spoke < 12; spoke++) add(when + ": worn " + spoke, x.worn(spoke));
    }

    private void standing(String when) {
        counts(when);
        for (int h = 0; h < x.count(0); h++) {
            for (int what = 1; what <= 6; what++) add(when + ": house " + h + " what " + what, x.house(h, what));
            for (int sort = 0; sort < 5; sort++) add(when + ": house " + h + " likes " + sort, x.house(h, 100 + sort));
        }
        for (int d = 0; d < 12; d++) {
            add(when + ": gate at " + d, x.direction(d, 1));
            add(when + ": sorts at " + d, x.direction(d, 2));
        }
        rates(when);
    }

    private void rates(String when) {
        for (int h = 0; h < 24; h++) add(when + ": rate of hour " + h, x.rateOf(h));
    }

    private void diary() {
        for (int what = 0; what <= 2; what++) add("turned " + what, x.turned(what));
    }

    private void acts() {
        for (int more = x.count(11); more >= 0; more--) {
            add("undo", x.undo());
            int[] touched = {4, 5, 6, 7, 8, 9, 11};
            for (int what : touched) add("undone to " + more + ": count " + what, x.count(what));
        }
        rates("all undone");
    }

    private void rules() {
        for (int k = 0; k < x.count(3); k++) add("3 hours by rule " + k, x.run(k, 3));
    }

    private void images() {
        for (int k = 0; k < 4; k++) {
            int day = x.back(k);
            add("back to " + k, day);
            if (day >= 0) counts("image " + k);
        }
    }

    private void tape() {
        add("its tape as a ring", x.ring());
        add("angle of that", x.count(4));
    }
}
