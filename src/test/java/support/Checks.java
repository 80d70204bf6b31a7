/** What the hand-written tests share: telling texts, and holding an answer against the one that is due. */
final class Checks {
    private static int wrong = 0;
    private static int held = 0;
    private static String sentence = "";
    private static int heldAhead = 0;

    private Checks() { }

    /** The sentence of the document that the checks from here on hold the class to. */
    static void sentence(String words) {
        endSentence();
        sentence = words;
        heldAhead = held;
    }

    private static void endSentence() {
        if (!sentence.isEmpty() && held == heldAhead) {
            wrong++;
            System.out.println("nothing is held against \"" + sentence + "\"");
        }
        sentence = "";
    }

    static void due(String call, long got, long want) {
        held++;
        if (got != want) {
            wrong++;
            String under = sentence.isEmpty() ? "" : " (\"" + sentence + "\")";
            System.out.println(call + " answered " + got + ", due is " + want + under);
        }
    }

    static void due(String call, boolean got, boolean want) {
        due(call, got ? 1 : 0, want ? 1 : 0);
    }

    /** Ends the program, with exit code 1 if an answer was not as due. */
    static void finish() {
        endSentence();
        System.out.println(wrong == 0 ? held + " answers are as due" : wrong + " of " + held + " answers are not as due");
        if (wrong > 0) System.exit(1);
    }

    /** What ring() and rule() answer to a FAULT. */
    static int fault(int place, int kind) {
        return -2 - (1 + 8 * place + kind);
    }

    static String times(String text, int n) {
        StringBuilder b = new StringBuilder();
        for (int i = 0; i < n; i++) b.append(text);
        return b.toString();
    }

    static void tape(TurnRing x, String text) {
        StringBuilder b = new StringBuilder(text);
        while (b.length() % 20 != 0) b.append((char) 0);
        x.end(0);
        for (int i = 0; i < b.length(); i += 20) {
            int[] v = new int[5];
            for (int k = 0; k < 20; k++) v[k / 4] = v[k / 4] << 8 | b.charAt(i + k);
            x.feed(v[0], v[1], v[2], v[3], v[4]);
        }
        x.end(text.length());
    }

    static int ring(TurnRing x, String text) {
        tape(x, text);
        return x.ring();
    }

    static int rule(TurnRing x, String text) {
        tape(x, text);
        return x.rule();
    }

    static TurnRing made(String ring, String... rules) {
        TurnRing x = new TurnRing();
        int houses = ring(x, ring);
        if (houses < 0) due("ring \"" + ring + "\" is refused", houses, 0);
        for (int i = 0; i < rules.length; i++) due("rule \"" + rules[i] + "\"", rule(x, rules[i]), i);
        return x;
    }
}
