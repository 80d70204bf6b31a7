import java.util.Random;

/**
 * Runs of calls drawn by a fixed seed, each answered by TurnRing and by the
 * slow Model; prints the calls up to the first that differs.
 */
public final class ModelRuns {
    private final Random random;
    private final TurnRing x = new TurnRing();
    private final Model m = new Model();
    private final StringBuilder told = new StringBuilder();
    private int wrong = 0;

    private ModelRuns(long seed) {
        random = new Random(seed);
    }

    public static void main(String[] args) {
        int runs = args.length > 0 ? Integer.parseInt(args[0]) : 1500;
        int wrongRuns = 0;
        for (int run = 0; run < runs && wrongRuns < 3; run++) {
            ModelRuns r = new ModelRuns(run);
            r.go();
            if (r.wrong > 0) {
                wrongRuns++;
                System.out.println("run " + run + ":\n" + r.told);
            }
        }
        System.out.println(wrongRuns == 0 ? "TurnRing and Model agree in " + runs + " runs" : "TurnRing and Model differ");
        if (wrongRuns > 0) System.exit(1);
    }

    private void due(String call, long got, long want) {
        told.append(call).append(" -> ").append(got);
        if (got != want) {
            wrong++;
            told.append(", model ").append(want);
        }
        told.append('\n');
    }

    private int upTo(int n) {
        return random.nextInt(n + 1);
    }

    private boolean chance(int percent) {
        return random.nextInt(100) < percent;
    }

    /** From least to most, now and then next to them. */
    private int near(int least, int most) {
        if (chance(3)) return least - 1;
        if (chance(3)) return most + 1;
        if (chance(1)) return chance(50) ? Integer.MIN_VALUE : Integer.MAX_VALUE;
        return least + random.nextInt(most - least + 1);
    }

    private void go() {
        if (chance(95)) tellRing(chance(90) ? 0 : 20);
        for (int i = 0; i < 3; i++) tellRule(chance(90) ? 0 : 20);
        for (int i = 0; i < 120 && wrong == 0; i++) call();
    }

    private void tellText(String text) {
        String padded = text;
        while (padded.length() % 20 != 0) padded += '\0';
        for (int i = 0; i < padded.length(); i += 20) {
            int[] v = new int[5];
            for (int k = 0; k < 20; k++) v[k / 4] = v[k / 4] << 8 | padded.charAt(i + k);
            due("feed", x.feed(v[0], v[1], v[2], v[3], v[4]), m.feed(v));
        }
        due("end(" + text.length() + ")", x.end(text.length()), m.end(text.length()));
    }

    private void tellRing(int harm) {
        String text = harmed(ringText(), harm);
        told.append('"').append(text).append("\"\n");
        tellText(text);
        due("ring", x.ring(), m.ring());
    }

    private void tellRule(int harm) {
        String text = harmed(ruleText(), harm);
        told.append('"').append(text).append("\"\n");
        tellText(text);
        due("rule", x.rule(), m.rule());
    }

    private String harmed(String text, int harm) {
        StringBuilder b = new StringBuilder(text);
        while (b.length() > 0 && chance(harm * 3)) {
            int at = random.nextInt(b.length());
            String signs = " ;[]<>=+-*/%09azx1notifandor" + (char) 0 + (char) 200;
            char c = signs.charAt(random.nextInt(signs.length()));
            int how = random.nextInt(4);
            if (how == 0) b.setCharAt(at, c);
            else if (how == 1) b.deleteCharAt(at);
            else if (how == 2) b.insert(at, c);
            else b.setLength(at);
        }
        if (b.length() > 400) b.setLength(400);
        return b.toString();
    }

    private String blank() {
        return chance(90) ? " " : chance(50) ? "  " : " ";
    }

    private String ringText() {
        StringBuilder b = new StringBuilder("ring" + blank() + upTo(11));
        int houses = chance(5) ? 0 : chance(10) ? 8 : 1 + upTo(6);
        java.util.List<Integer> slots = new java.util.ArrayList<>();
        for (int i = 0; i < 12; i++) slots.add(i);
        java.util.Collections.shuffle(slots, random);
        for (int h = 0; h < houses; h++) b.append(";house").append(blank()).append(slots.get(h)).append(' ').append(1 + upTo(8));
        int sorts = 1 + upTo(4);
        int sights = 2 + upTo(9);
        for (int i = 0; i < sights; i++) {
            int first = chance(60) ? 0 : upTo(23);
            b.append(";sight ").append(upTo(sorts - 1)).append(' ').append(upTo(11)).append(' ').append(first).append(' ').append(chance(60) ? 23 : first + upTo(23 - first));
        }
        if (houses > 0) {
            int likes = 1 + upTo(9);
            for (int i = 0; i < likes; i++) {
                b.append(chance(60) ? ";likes " : ";loathes ").append(upTo(Math.min(6, houses - 1))).append(' ').append(upTo(sorts - 1)).append(' ').append(1 + upTo(8));
            }
        }
        int gates = upTo(5);
        for (int i = 0; i < gates; i++) b.append(";gate ").append(upTo(11));
        int rates = upTo(2);
        for (int i = 0; i < rates; i++) {
            int first = chance(40) ? 0 : upTo(23);
            b.append(";rate ").append(first).append(' ').append(chance(40) ? 23 : first + upTo(23 - first)).append(blank()).append(upTo(6));
        }
        while (b.length() > 400) b.setLength(b.toString().lastIndexOf(';'));
        return b.toString();
    }

    private static final String[] WORDS = {"hour", "day", "angle", "rate", "worn", "liked", "best", "least", "stays", "votes", "gates", "stops"};

    private String value() {
        return chance(50) ? WORDS[random.nextInt(12)] : chance(90) ? "" + upTo(9) : "" + upTo(99999);
    }

    private String sum() {
        StringBuilder b = new StringBuilder(value());
        while (chance(35)) b.append(chance(70) ? " " : "").append("+-*/%".charAt(random.nextInt(5))).append(chance(70) ? " " : "").append(value());
        return b.toString();
    }

    private String fact(int depth) {
        if (depth < 12 && chance(15)) return "not " + fact(depth + 1);
        if (depth < 12 && chance(15)) return "[" + test(depth + 1) + "]";
        String[] signs = {"<", "<=", "=", ">=", ">"};
        return sum() + (chance(50) ? " " : "") + signs[random.nextInt(5)] + (chance(50) ? " " : "") + sum();
    }

    private String test(int depth) {
        StringBuilder b = new StringBuilder(fact(depth));
        while (chance(30)) b.append(chance(50) ? " and " : " or ").append(fact(depth));
        return b.toString();
    }

    private String ruleText() {
        StringBuilder b = new StringBuilder("turn " + sum());
        if (chance(60)) b.append(" if ").append(test(0));
        while (chance(50)) {
            b.append(chance(50) ? ";" : " ; ").append("turn ").append(sum());
            if (chance(70)) b.append(" if ").append(test(0));
        }
        while (b.length() > 400) b.setLength(b.length() / 2);
        return b.toString();
    }

    private int someGate() {
        int g = near(0, 11);
        for (int i = 0; i < 12 && chance(90) && (g < 0 || g > 11 || !m.s.gates[g]); i++) g = upTo(11);
        return g;
    }

    private void call() {
        int a = near(0, Math.max(0, m.s.houses() - 1));
        int b = near(0, Math.max(0, m.s.houses() - 1));
        switch (random.nextInt(36)) {
            case 0: if (chance(10)) tellRing(15); break;
            case 1: if (chance(30)) tellRule(15); break;
            case 2: { int w = chance(30) ? near(100, 104) : near(0, 6); due("house " + a + " " + w, x.house(a, w), m.house(a, w)); break; }
            case 3: { int d = near(0, 11); int w = near(0, 2); due("direction " + d + " " + w, x.direction(d, w), m.direction(d, w)); break; }
            case 4: { int h = near(0, 23); due("rateOf " + h, x.rateOf(h), m.rateOf(h)); break; }
            case 5: { int k = near(0, 11); due("worn " + k, x.worn(k), m.worn(k)); break; }
            case 6: case 7: case 8: due("hour", x.hour(), m.hour()); break;
            case 9: { int h = near(0, 23); int r = near(-3, 3); due("rate " + h + " " + r, x.rate(h, r), m.rate(h, r)); break; }
            case 10: due("swap " + a + " " + b, x.swap(a, b) ? 1 : 0, m.swap(a, b) ? 1 : 0); break;
            case 11: due("stop", x.stop() ? 1 : 0, m.stop() ? 1 : 0); break;
            case 12: case 13: due("undo", x.undo(), m.undo()); break;
            case 14: { int r = near(0, 3); int n = near(1, 96); due("run " + r + " " + n, x.run(r, n), m.run(r, n)); break; }
            case 15: { int n = near(0, 200); due("faces " + a + " " + n, x.faces(a, n), m.faces(a, n)); break; }
            case 16: { int n = near(0, 200); due("sees " + a + " " + n, x.sees(a, n), m.sees(a, n)); break; }
            case 17: due("day " + a, x.day(a), m.day(a)); break;
            case 18: if (chance(30)) { int n = near(1, 5); boolean f = chance(50); int w = near(0, 5); due("plan " + n + " " + f + " " + w, x.plan(n, f, w), m.plan(n, f, w)); } break;
            case 19: case 20: { int g = someGate(); int w = chance(50) ? near(0, 24) : 0; int k = near(0, 1); due("errand " + a + " " + g + " " + w + " " + k, x.errand(a, g, w, k), m.errand(a, g, w, k)); break; }
            case 21: { int w = near(0, 1); due("stay " + w, x.stay(w), m.stay(w)); break; }
            case 22: due("swings " + a, x.swings(a), m.swings(a)); break;
            case 23: { int w = near(0, 8); due("trade " + w, x.trade(w), m.trade(w)); break; }
            case 24: { int n = near(1, 5); int t = near(0, 10); int w = near(0, 5); due("spare " + n + " " + t + " " + w, x.spare(n, t, w), m.spare(n, t, w)); break; }
            case 25: { int r = near(0, 3); int q = near(0, 3); int k = near(0, 4); int n = near(1, 60); due("apart " + r + " " + q + " " + a + " " + k + " " + n, x.apart(r, q, a, k, n), m.apart(r, q, a, k, n)); break; }
            case 26: case 27: { int n = near(0, 99); int k = near(0, 4); boolean s = chance(20); due("diary " + a + " " + n + " " + k + " " + s, x.diary(a, n, k, s), m.diary(a, n, k, s)); break; }
            case 28: { int w = near(0, 2); due("turned " + w, x.turned(w), m.turned(w)); break; }
            case 29: if (chance(30)) { int n = near(0, 99); int w = near(0, 2); due("look " + n + " " + w, x.look(n, w), m.look(n, w)); } break;
            case 30: { int k = near(0, 2147483646); due("seed " + k, x.seed(k), m.seed(k)); break; }
            case 31: if (chance(50)) { int k = near(1, 10); int n = near(1, 96); int p = chance(30) ? near(0, 100) : upTo(20); int w = near(0, 1); due("days " + k + " " + n + " " + p + " " + w, x.days(k, n, p, w), m.days(k, n, p, w)); } break;
            case 32: case 33: { int w = near(0, 14); due("count " + w, x.count(w), m.count(w)); break; }
            case 34: { int k = near(0, 3); due("image " + k, x.image(k), m.image(k)); break; }
            default: if (chance(50)) { int k = near(0, 3); due("back " + k, x.back(k), m.back(k)); } break;
        }
    }
}
