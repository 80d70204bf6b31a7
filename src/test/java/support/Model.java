import java.util.ArrayList;
import java.util.List;
import java.util.function.Predicate;
import java.util.function.ToLongFunction;

/**
 * The document once more, as slowly and plainly as it can be said: every row is
 * tried, every HOUR is gone through, whole states are copied. Nothing is shared
 * with the class it is held against.
 */
final class Model {
    static final class Fault extends RuntimeException {
        private static final long serialVersionUID = 1L;
        final int number;

        Fault(int place, int kind) {
            super("fault");
            number = 1 + 8 * place + kind;
        }
    }

    /** sort, direction, first, last. */
    record Sight(int sort, int direction, int first, int last) { }

    record Line(int house, int n, int sort, boolean seen) { }

    record Clause(ToLongFunction<State> sum, Predicate<State> test) { }

    static final class State implements Cloneable {
        boolean told;
        int angle, hour, day, stops, x;
        boolean stopped;
        List<Integer> slots = new ArrayList<>();
        List<Integer> toldSlots = new ArrayList<>();
        List<Integer> votes = new ArrayList<>();
        int[][] likes = new int[7][5];
        List<Sight> sights = new ArrayList<>();
        boolean[] gates = new boolean[12];
        int[] rates = new int[24];
        int[] worn = new int[12];
        List<Line> diary = new ArrayList<>();

        State copy() {
            State s = new State();
            s.told = told;
            s.angle = angle;
            s.hour = hour;
            s.day = day;
            s.stops = stops;
            s.x = x;
            s.stopped = stopped;
            s.slots = new ArrayList<>(slots);
            s.toldSlots = new ArrayList<>(toldSlots);
            s.votes = new ArrayList<>(votes);
            for (int h = 0; h < 7; h++) s.likes[h] = likes[h].clone();
            s.sights = new ArrayList<>(sights);
            s.gates = gates.clone();
            s.rates = rates.clone();
            s.worn = worn.clone();
            s.diary = new ArrayList<>(diary);
            return s;
        }

        int houses() {
            return slots.size();
        }

        int faces(int house) {
            int d = slots.get(house) + angle;
            return d > 11 ? d - 12 : d;
        }

        boolean seenThere(int direction, int sort, int atHour) {
            for (Sight s : sights) {
                if (s.direction() == direction && s.sort() == sort && s.first() <= atHour && atHour <= s.last()) return true;
            }
            return false;
        }

        int bits(int direction) {
            int bits = 0;
            for (int sort = 0; sort < 5; sort++) if (seenThere(direction, sort, hour)) bits += 1 << sort;
            return bits;
        }

        int likes(int house) {
            int sum = 0;
            for (int sort = 0; sort < 5; sort++) if (seenThere(faces(house), sort, hour)) sum += likes[house][sort];
            return sum;
        }

        int allLike() {
            int sum = 0;
            for (int h = 0; h < houses(); h++) sum += likes(h);
            return sum;
        }

        boolean wants(int house) {
            State s = copy();
            s.angle = Math.floorMod(angle + rates[hour], 12);
            return likes(house) > s.likes(house);
        }

        void goBy(int rate) {
            if (!stopped) {
                for (int i = 0; i < Math.abs(rate); i++) {
                    worn[angle]++;
                    angle += rate > 0 ? 1 : -1;
                    if (angle == 12) angle = 0;
                    if (angle == -1) angle = 11;
                }
            }
            stopped = false;
            hour++;
            if (hour == 24) {
                hour = 0;
                if (day < 999) day++;
            }
        }

        State on(int n) {
            State s = copy();
            for (int i = 0; i < n; i++) s.goBy(s.rates[s.hour]);
            return s;
        }

        int dayOf(int house) {
            int sum = 0;
            for (int n = 0; n < 24; n++) sum += on(n).likes(house);
            return sum;
        }

        int allVotes() {
            int sum = 0;
            for (int v : votes) sum += v;
            return sum;
        }

        int rateBy(List<Clause> rule) {
            for (Clause c : rule) {
                if (c.test() == null || c.test().test(this)) {
                    long sum = c.sum().applyAsLong(this);
                    return sum < -3 ? -3 : sum > 3 ? 3 : (int) sum;
                }
            }
            return 0;
        }
    }

    State s = new State();
    final List<Integer> tape = new ArrayList<>();
    final List<List<Clause>> rules = new ArrayList<>();
    final List<State> acts = new ArrayList<>();
    final State[] images = new State[4];

    // ---- texts

    private final class Text {
        int at = 0;
        int counted = 0;

        int look() {
            while (at < tape.size() && tape.get(at) == 32) at++;
            return at < tape.size() ? tape.get(at) : -1;
        }

        String word() {
            look();
            StringBuilder b = new StringBuilder();
            for (int i = at; i < tape.size() && tape.get(i) >= 'a' && tape.get(i) <= 'z'; i++) b.append((char) (int) tape.get(i));
            return b.toString();
        }

        boolean take(String word) {
            if (!word().equals(word)) return false;
            at += word.length();
            return true;
        }

        boolean sign(int c) {
            if (look() != c) return false;
            at++;
            return true;
        }

        boolean atDigit() {
            int c = look();
            return c >= '0' && c <= '9';
        }

        int number(int least, int most) {
            if (!atDigit()) throw new Fault(at, 0);
            int from = at;
            long v = 0;
            while (at < tape.size() && tape.get(at) >= '0' && tape.get(at) <= '9') v = Math.min(10000000L, v * 10 + tape.get(at++) - '0');
            if (at - from > 5 || v < least || v > most) throw new Fault(from, 1);
            return (int) v;
        }

        void one(int place) {
            if (++counted > 60) throw new Fault(place, 3);
        }

        ToLongFunction<State> value() {
            if (atDigit()) {
                int from = at;
                int n = number(0, 99999);
                one(from);
                return st -> n;
            }
            int from = at;
            String w = word();
            ToLongFunction<State> f;
            switch (w) {
                case "hour": f = st -> st.hour; break;
                case "day": f = st -> st.day; break;
                case "angle": f = st -> st.angle; break;
                case "rate": f = st -> st.rates[st.hour]; break;
                case "worn": f = st -> st.worn[st.angle]; break;
                case "liked": f = State::allLike; break;
                case "best": f = st -> { long m = Long.MIN_VALUE; for (int h = 0; h < st.houses(); h++) m = Math.max(m, st.likes(h)); return st.houses() == 0 ? 0 : m; }; break;
                case "least": f = st -> { long m = Long.MAX_VALUE; for (int h = 0; h < st.houses(); h++) m = Math.min(m, st.likes(h)); return st.houses() == 0 ? 0 : m; }; break;
                case "stays": f = st -> { long m = 0; for (int h = 0; h < st.houses(); h++) if (st.wants(h)) m += st.votes.get(h); return m; }; break;
                case "votes": f = State::allVotes; break;
                case "gates": f = st -> { long m = 0; for (int h = 0; h < st.houses(); h++) if (st.gates[st.faces(h)]) m++; return m; }; break;
                case "stops": f = st -> st.stops; break;
                default: throw new Fault(from, 0);
            }
            one(from);
            at += w.length();
            return f;
        }

        ToLongFunction<State> term() {
            ToLongFunction<State> left = value();
            while (true) {
                ToLongFunction<State> a = left;
                if (sign('*')) {
                    ToLongFunction<State> b = value();
                    left = st -> a.applyAsLong(st) * b.applyAsLong(st);
                } else if (sign('/')) {
                    ToLongFunction<State> b = value();
                    left = st -> b.applyAsLong(st) == 0 ? 0 : a.applyAsLong(st) / b.applyAsLong(st);
                } else if (sign('%')) {
                    ToLongFunction<State> b = value();
                    left = st -> b.applyAsLong(st) == 0 ? 0 : a.applyAsLong(st) % b.applyAsLong(st);
                } else {
                    return left;
                }
            }
        }

        ToLongFunction<State> sum() {
            ToLongFunction<State> left = term();
            while (true) {
                ToLongFunction<State> a = left;
                if (sign('+')) {
                    ToLongFunction<State> b = term();
                    left = st -> a.applyAsLong(st) + b.applyAsLong(st);
                } else if (sign('-')) {
                    ToLongFunction<State> b = term();
                    left = st -> a.applyAsLong(st) - b.applyAsLong(st);
                } else {
                    return left;
                }
            }
        }

        Predicate<State> fact(int depth) {
            look();
            int from = at;
            if (look() == '[') {
                if (depth == 10) throw new Fault(from, 2);
                at++;
                Predicate<State> t = test(depth + 1);
                if (!sign(']')) throw new Fault(at, 0);
                return t;
            }
            if (word().equals("not")) {
                if (depth == 10) throw new Fault(from, 2);
                at += 3;
                return fact(depth + 1).negate();
            }
            ToLongFunction<State> a = sum();
            int c = look();
            int place = at;
            if (c != '<' && c != '=' && c != '>') throw new Fault(at, 0);
            at++;
            boolean or = c != '=' && at < tape.size() && tape.get(at) == '=';
            if (or) at++;
            one(place);
            ToLongFunction<State> b = sum();
            return st -> {
                long x = a.applyAsLong(st);
                long y = b.applyAsLong(st);
                if (x == y) return or || c == '=';
                return x < y ? c == '<' : c == '>';
            };
        }

        Predicate<State> part(int depth) {
            Predicate<State> p = fact(depth);
            while (take("and")) p = p.and(fact(depth));
            return p;
        }

        Predicate<State> test(int depth) {
            Predicate<State> p = part(depth);
            while (take("or")) p = p.or(part(depth));
            return p;
        }

        List<Clause> rule() {
            List<Clause> clauses = new ArrayList<>();
            do {
                look();
                if (!word().equals("turn")) throw new Fault(at, 0);
                if (clauses.size() == 12) throw new Fault(at, 4);
                at += 4;
                ToLongFunction<State> sum = sum();
                clauses.add(new Clause(sum, take("if") ? test(0) : null));
            } while (sign(';'));
            if (look() != -1) throw new Fault(at, 0);
            return clauses;
        }

        State ring() {
            State r = new State();
            r.told = true;
            java.util.Arrays.fill(r.rates, 1);
            int clauses = 0;
            do {
                look();
                String w = word();
                if (!List.of("ring", "house", "sight", "likes", "loathes", "gate", "rate").contains(w)) throw new Fault(at, 0);
                if (clauses == 40 || clauses == 0 && !w.equals("ring") || clauses > 0 && w.equals("ring")
                        || w.equals("house") && r.houses() == 7 || w.equals("sight") && r.sights.size() == 12) throw new Fault(at, 4);
                at += w.length();
                clauses++;
                clause(r, w);
            } while (sign(';'));
            if (look() != -1) throw new Fault(at, 0);
            return r;
        }

        void clause(State r, String w) {
            switch (w) {
                case "ring": r.angle = number(0, 11); break;
                case "house": {
                    look();
                    int place = at;
                    int slot = number(0, 11);
                    if (r.slots.contains(slot)) throw new Fault(place, 1);
                    r.votes.add(number(1, 9));
                    r.slots.add(slot);
                    r.toldSlots.add(slot);
                    break;
                }
                case "sight": {
                    int sort = number(0, 4);
                    int d = number(0, 11);
                    int first = number(0, 23);
                    r.sights.add(new Sight(sort, d, first, number(first, 23)));
                    break;
                }
                case "gate": r.gates[number(0, 11)] = true; break;
                case "rate": {
                    int first = number(0, 23);
                    int last = number(first, 23);
                    int rate = number(0, 6) - 3;
                    for (int h = first; h <= last; h++) r.rates[h] = rate;
                    break;
                }
                default: {
                    int h = number(0, r.houses() - 1);
                    int sort = number(0, 4);
                    int v = number(1, 9);
                    r.likes[h][sort] = w.equals("likes") ? v : -v;
                }
            }
        }
    }

    int feed(int... five) {
        if (tape.size() > 380) return -1;
        for (int v : five) for (int k = 3; k >= 0; k--) tape.add(v >> 8 * k & 255);
        return tape.size();
    }

    int end(int n) {
        if (n < 0 || n > tape.size()) return -1;
        while (tape.size() > n) tape.remove(tape.size() - 1);
        return n;
    }

    int ring() {
        try {
            State r = new Text().ring();
            r.x = s.x;
            s = r;
            acts.clear();
            return s.houses();
        } catch (Fault f) {
            return -2 - f.number;
        } finally {
            tape.clear();
        }
    }

    int rule() {
        if (rules.size() == 6) return -1;
        try {
            rules.add(new Text().rule());
            return rules.size() - 1;
        } catch (Fault f) {
            return -2 - f.number;
        } finally {
            tape.clear();
        }
    }

    // ---- now

    boolean in(int v, int least, int most) {
        return least <= v && v <= most;
    }

    boolean isHouse(int h) {
        return in(h, 0, s.houses() - 1);
    }

    int house(int h, int what) {
        if (!isHouse(h)) return -1000;
        if (in(what, 100, 104)) return s.likes[h][what - 100];
        switch (what) {
            case 0: return s.slots.get(h);
            case 1: return s.votes.get(h);
            case 2: return s.faces(h);
            case 3: return s.bits(s.faces(h));
            case 4: return s.likes(h);
            case 5: return s.gates[s.faces(h)] ? 1 : 0;
            case 6: return s.wants(h) ? 1 : 0;
            default: return -1000;
        }
    }

    int direction(int d, int what) {
        if (!s.told || !in(d, 0, 11) || !in(what, 0, 2)) return -2;
        if (what == 1) return s.gates[d] ? 1 : 0;
        if (what == 2) return s.bits(d);
        for (int h = 0; h < s.houses(); h++) if (s.faces(h) == d) return h;
        return -1;
    }

    int rateOf(int h) {
        return s.told && in(h, 0, 23) ? s.rates[h] : -1000;
    }

    int worn(int k) {
        return s.told && in(k, 0, 11) ? s.worn[k] : -1;
    }

    // ---- acts: the whole state ahead of each is kept

    void keep() {
        acts.add(s.copy());
        if (acts.size() > 20) acts.remove(0);
    }

    int hour() {
        if (!s.told || s.day == 999 && s.hour == 23) return -1;
        keep();
        s.goBy(s.rates[s.hour]);
        return s.angle;
    }

    int rate(int h, int r) {
        if (!s.told || !in(h, 0, 23) || !in(r, -3, 3)) return -1000;
        keep();
        int was = s.rates[h];
        s.rates[h] = r;
        return was;
    }

    boolean swap(int a, int b) {
        if (!isHouse(a) || !isHouse(b) || a == b) return false;
        keep();
        java.util.Collections.swap(s.slots, a, b);
        return true;
    }

    boolean stop() {
        if (!s.told || s.stopped) return false;
        keep();
        s.stopped = true;
        s.stops++;
        return true;
    }

    int undo() {
        if (acts.isEmpty()) return -1;
        State was = acts.remove(acts.size() - 1);
        // DIARY and x are no ACTS
        was.diary = s.diary;
        was.x = s.x;
        s = was;
        return acts.size();
    }

    int run(int rule, int n) {
        if (!s.told || !in(rule, 0, rules.size() - 1) || !in(n, 1, 96)) return -1;
        if (s.day + (s.hour + n) / 24 > 999) return -1;
        for (int i = 0; i < n; i++) s.goBy(s.rateBy(rules.get(rule)));
        acts.clear();
        return s.angle;
    }

    // ---- asked

    int faces(int h, int n) {
        return isHouse(h) && in(n, 0, 200) ? s.on(n).faces(h) : -1;
    }

    int sees(int h, int n) {
        if (!isHouse(h) || !in(n, 0, 200)) return -1;
        State t = s.on(n);
        return t.bits(t.faces(h));
    }

    int day(int h) {
        return isHouse(h) ? s.dayOf(h) : -100000;
    }

    static int[][] rows(int n, int least, int most) {
        List<int[]> rows = new ArrayList<>();
        rows.add(new int[0]);
        for (int i = 0; i < n; i++) {
            List<int[]> longer = new ArrayList<>();
            for (int[] r : rows) {
                for (int v = least; v <= most; v++) {
                    int[] l = java.util.Arrays.copyOf(r, i + 1);
                    l[i] = v;
                    longer.add(l);
                }
            }
            rows = longer;
        }
        return rows.toArray(new int[0][]);
    }

    int plan(int n, boolean fair, int what) {
        if (s.houses() == 0 || !in(n, 1, 5) || !in(what, 0, 5)) return -100000;
        int[] best = null;
        int worth = 0;
        for (int[] row : rows(n, -1, 1)) {
            State t = s.copy();
            t.stopped = false;
            int[] has = new int[t.houses()];
            for (int r : row) {
                t.goBy(r);
                for (int h = 0; h < has.length; h++) has[h] += t.likes(h);
            }
            int w = fair ? java.util.Arrays.stream(has).min().getAsInt() : java.util.Arrays.stream(has).sum();
            if (best == null || w > worth) {
                worth = w;
                best = row;
            }
        }
        return what == 0 ? worth : what > n ? -2 : best[what - 1];
    }

    int errand(int h, int gate, int w, int what) {
        if (!isHouse(h) || !in(gate, 0, 11) || !s.gates[gate] || !in(w, 0, 24) || !in(what, 0, 1)) return -1;
        int left = -1;
        for (int t = 48; t >= 0; t--) if (s.on(t).faces(h) == gate) left = t;
        if (left < 0) return -2;
        int back = 1000;
        for (int g = 0; g < 12; g++) {
            if (!s.gates[g]) continue;
            int there = left + w + Math.min(Math.floorMod(g - gate, 12), Math.floorMod(gate - g, 12));
            int t = there;
            while (t <= 96 && s.on(t).faces(h) != g) t++;
            if (t <= 96) back = Math.min(back, t);
        }
        return back == 1000 ? -2 : what == 0 ? left : back;
    }

    int stay(int what) {
        if (!s.told || !in(what, 0, 1)) return -1;
        int who = 0;
        int votes = 0;
        for (int h = 0; h < s.houses(); h++) {
            if (s.wants(h)) {
                who += 1 << h;
                votes += s.votes.get(h);
            }
        }
        return what == 0 ? who : votes > s.allVotes() - votes ? 1 : 0;
    }

    private int swings(int house, int next, int votes) {
        if (next == s.houses()) {
            boolean without = votes * 2 > s.allVotes();
            boolean with = (votes + s.votes.get(house)) * 2 > s.allVotes();
            return !without && with ? 1 : 0;
        }
        if (next == house) return swings(house, next + 1, votes);
        return swings(house, next + 1, votes) + swings(house, next + 1, votes + s.votes.get(next));
    }

    int swings(int house) {
        return isHouse(house) ? swings(house, 0, 0) : -1;
    }

    private int tradeRows;
    private int tradeSum;
    private List<Integer> tradeBest;

    private void trade(List<Integer> row, int[][] days, int sum) {
        int h = row.size();
        if (h == s.houses()) {
            tradeRows++;
            if (tradeBest == null || sum > tradeSum) {
                tradeSum = sum;
                tradeBest = new ArrayList<>(row);
            }
            return;
        }
        for (int slot = 0; slot < 12; slot++) {
            if (!s.slots.contains(slot) || row.contains(slot) || days[h][slot] < days[h][s.slots.get(h)]) continue;
            row.add(slot);
            trade(row, days, sum + days[h][slot]);
            row.remove(h);
        }
    }

    int trade(int what) {
        if (!s.told || !in(what, 0, 8)) return -100000;
        int[][] days = new int[7][12];
        for (int h = 0; h < s.houses(); h++) {
            for (int slot = 0; slot < 12; slot++) {
                State t = s.copy();
                t.slots.set(h, slot);
                days[h][slot] = t.dayOf(h);
            }
        }
        tradeRows = 0;
        tradeBest = null;
        trade(new ArrayList<>(), days, 0);
        if (what == 0) return tradeRows;
        if (what == 1) return tradeSum;
        return what - 2 < s.houses() ? tradeBest.get(what - 2) : -2;
    }

    int spare(int n, int t, int what) {
        if (!s.told || !in(n, 1, 5) || !in(t, 0, 10) || !in(what, 0, 5)) return -1;
        int[] best = null;
        int worth = 0;
        for (int[] row : rows(n, 0, 2)) {
            if (java.util.Arrays.stream(row).sum() != t) continue;
            State k = s.copy();
            k.stopped = false;
            for (int r : row) k.goBy(r);
            int w = java.util.Arrays.stream(k.worn).max().getAsInt();
            if (best == null || w < worth) {
                worth = w;
                best = row;
            }
        }
        if (best == null) return -2;
        return what == 0 ? worth : what > n ? -2 : best[what - 1];
    }

    private int seen(int rule, int h, int sort, int n) {
        State t = s.copy();
        int seen = 0;
        for (int i = 0; i < n; i++) {
            if (t.seenThere(t.faces(h), sort, t.hour)) seen++;
            t.goBy(t.rateBy(rules.get(rule)));
        }
        return seen;
    }

    int apart(int one, int other, int h, int sort, int n) {
        if (!in(one, 0, rules.size() - 1) || !in(other, 0, rules.size() - 1) || !isHouse(h) || !in(sort, 0, 4) || !in(n, 1, 60)) return -100000;
        return seen(one, h, sort, n) - seen(other, h, sort, n);
    }

    int diary(int h, int n, int sort, boolean seen) {
        if (h == -1) {
            s.diary = new ArrayList<>();
            return 0;
        }
        if (!isHouse(h) || !in(n, 0, 99) || !in(sort, 0, 4) || s.diary.size() == 10) return -2;
        s.diary = new ArrayList<>(s.diary);
        s.diary.add(new Line(h, n, sort, seen));
        return s.diary.size();
    }

    private boolean would(int angle, int rate, int h, int n, int sort) {
        State t = s.copy();
        t.slots = new ArrayList<>(s.toldSlots);
        t.angle = angle;
        t.hour = 0;
        t.stopped = false;
        for (int i = 0; i < n; i++) t.goBy(rate);
        return t.seenThere(t.faces(h), sort, t.hour);
    }

    private List<int[]> turns() {
        List<int[]> turns = new ArrayList<>();
        for (int a = 0; a < 12; a++) {
            for (int r = -3; r <= 3; r++) {
                boolean so = true;
                for (Line l : s.diary) so &= would(a, r, l.house(), l.n(), l.sort()) == l.seen();
                if (so) turns.add(new int[] {a, r});
            }
        }
        return turns;
    }

    int turned(int what) {
        if (!s.told || !in(what, 0, 2)) return -2000;
        List<int[]> turns = turns();
        return what == 0 ? turns.size() : turns.isEmpty() ? -1000 : turns.get(0)[what - 1];
    }

    int look(int n, int what) {
        if (!s.told || !in(n, 0, 99) || !in(what, 0, 2)) return -1;
        List<int[]> turns = turns();
        if (turns.isEmpty() || s.houses() == 0) return -2;
        int[] best = null;
        for (int h = 0; h < s.houses(); h++) {
            for (int sort = 0; sort < 5; sort++) {
                int yes = 0;
                int no = 0;
                for (int[] t : turns) {
                    if (would(t[0], t[1], h, n, sort)) yes++; else no++;
                }
                if (best == null || Math.max(yes, no) < best[2]) best = new int[] {h, sort, Math.max(yes, no)};
            }
        }
        return best[what];
    }

    int seed(int x) {
        if (x < 0) return -1;
        int was = s.x;
        s.x = x;
        return was;
    }

    int days(int m, int n, int p, int what) {
        if (!s.told || !in(m, 1, 10) || !in(n, 1, 96) || !in(p, 0, 100) || !in(what, 0, 1)) return -10000000;
        java.math.BigInteger x = java.math.BigInteger.valueOf(s.x);
        int liked = 0;
        int steps = 0;
        for (int i = 0; i < m; i++) {
            State t = s.copy();
            for (int k = 0; k < n; k++) {
                x = x.multiply(java.math.BigInteger.valueOf(1103515245)).add(java.math.BigInteger.valueOf(12345))
                        .mod(java.math.BigInteger.valueOf(2147483648L));
                if (x.intValueExact() / 65536 % 100 < p) t.stopped = true;
                int before = java.util.Arrays.stream(t.worn).sum();
                t.goBy(t.rates[t.hour]);
                steps += java.util.Arrays.stream(t.worn).sum() - before;
                liked += t.allLike();
            }
        }
        return what == 0 ? liked : steps;
    }

    int count(int what) {
        int gates = 0;
        for (int d = 0; d < 12; d++) if (s.gates[d]) gates += 1 << d;
        int[] all = {s.houses(), s.sights.size(), gates, rules.size(), s.angle, s.hour, s.day, s.allLike(), s.stopped ? 1 : 0,
            s.stops, s.diary.size(), acts.size(), s.x, tape.size(), s.allVotes()};
        return in(what, 0, 14) ? all[what] : -100000;
    }

    int image(int k) {
        if (!in(k, 0, 3)) return -1;
        images[k] = s.copy();
        return s.day;
    }

    int back(int k) {
        if (!in(k, 0, 3) || images[k] == null) return -1;
        s = images[k].copy();
        acts.clear();
        return s.day;
    }
}
