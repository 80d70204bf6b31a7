/** The bounds of the texts of RULES, sentence by sentence: promise 5 and Terms I. */
public final class RuleBounds {
    private static final String[] WORDS = {"hour", "day", "angle", "rate", "worn", "liked", "best", "least", "stays", "votes", "gates", "stops"};

    public static void main(String[] args) {
        sixRules();
        textAndClauses();
        sumsAndTests();
        numbers();
        words();
        valuesOfWords();
        arithmetic();
        blanks();
        depth();
        valuesAndFacts();
        endsAndBytes();
        kindsOfFaults();
        severalFaults();
        Checks.finish();
    }

    private static void fault(String marked, int kind) {
        Stands.fault(marked, kind, Checks::rule);
    }

    private static void taken(String text) {
        Checks.due("rule \"" + text + "\"", Checks.rule(new TurnRing(), text), 0);
    }

    /** By how much a RULE turns a RING in an HOUR. */
    private static int steps(TurnRing x, int rule) {
        int before = x.count(4);
        return Math.floorMod(x.run(rule, 1) - before + 6, 12) - 6;
    }

    private static void turns(String sum, int want) {
        Checks.due("turn " + sum, steps(Checks.made("ring 5;rate 0 0 0", "turn " + sum), 0), want);
    }

    private static void holds(String test, boolean want) {
        Checks.due("if " + test, steps(Checks.made("ring 5", "turn 1 if " + test), 0), want ? 1 : 0);
    }

    /** The WORD's value in an object that a RING was told and that has no RULE yet. */
    private static void value(TurnRing x, String word, int want) {
        String number = want < 0 ? "0 - " + -want : "" + want;
        Checks.due("a rule of " + word, Checks.rule(x, "turn 1 if " + word + " = " + number), 0);
        Checks.due(word + " is " + want, steps(x, 0), 1);
    }

    // ---- promise 5

    private static TurnRing sixTold() {
        TurnRing x = Stands.emptyTape();
        for (int k = 2; k < 6; k++) Checks.rule(x, "turn " + k % 3);
        return x;
    }

    private static void sixRules() {
        Checks.sentence("The TAPE, which is empty then, is a RULE: its number");
        TurnRing x = Checks.made("ring 0");
        for (int k = 0; k < 6; k++) {
            Checks.due("rule", Checks.rule(x, "turn " + k % 4), k);
            Checks.due("the TAPE", x.count(13), 0);
            Checks.due("rules", x.count(3), k + 1);
        }
        for (int k = 0; k < 6; k++) Checks.due("turns by " + k, steps(x, k), k % 4);

        Checks.sentence("-2 - its FAULT");
        x = Checks.made("ring 0", "turn 2");
        Checks.due("a fault", Checks.rule(x, "turn 1 if"), -2 - (1 + 8 * 9));
        Checks.due("the TAPE", x.count(13), 0);
        Checks.due("rules", x.count(3), 1);
        Checks.due("the next has its number", Checks.rule(x, "turn 3"), 1);
        Checks.due("turns by the next", steps(x, 1), 3);
        Checks.due("turns by the one before", steps(x, 0), 2);

        Checks.sentence("NONE, and nothing happens: there are 6.");
        String[] texts = {"turn 1", "turn", "ring 3", ""};
        for (String text : texts) {
            Stands.unchanged("a seventh rule of \"" + text + "\"", () -> {
                TurnRing y = sixTold();
                Checks.tape(y, text);
                return y;
            }, TurnRing::rule, -1);
        }
        x = sixTold();
        Checks.due("another RING", Checks.ring(x, "ring 0"), 0);
        Checks.due("still there are 6", Checks.rule(x, "turn 1"), -1);
        Checks.due("back", x.back(1), 0);
        Checks.due("still there are 6", x.count(3), 6);
    }

    // ---- Terms: the language of RULES

    private static void textAndClauses() {
        Checks.sentence("RULES 0 to 5: texts likewise, 12 CLAUSES at most");
        TurnRing x = Checks.made("ring 0");
        Checks.due("400 bytes, the last with them", Checks.rule(x, "turn " + Checks.times(" ", 389) + "99%098"), 0);
        Checks.due("turns by 99 % 98", steps(x, 0), 1);
        fault("turn 1" + Checks.times(" ", 393) + "^.", 0);
        fault("turn 1" + Checks.times(" ", 393) + ";^", 0);
        fault(Checks.times(" ", 400) + "^", 0);
        fault("^", 0);
        String eleven = "turn 2 if hour = 99" + Checks.times(";turn 2 if hour = 99", 10);
        Checks.due("12 clauses", Checks.rule(x, eleven + ";turn 3"), 1);
        Checks.due("by the 12th", steps(x, 1), 3);
        String twelve = "turn 1" + Checks.times(";turn 1", 11);
        taken(twelve);
        fault(twelve + ";^turn 1", 4);
        fault(twelve + ";   ^turn", 4);
        fault("turn 1;^", 0);
        fault("turn 1;^;turn 1", 0);
        fault("^;turn 1", 0);
        fault("turn 1 ^turn 1", 0);
        fault("turn 1 if 1 = 1 ^turn 1", 0);
    }

    private static void sumsAndTests() {
        Checks.sentence("turn SUM [ if TEST ]");
        taken("turn 1");
        taken("turn 1 if 1 = 1");
        fault("turn^", 0);
        fault("turn ^;", 0);
        fault("turn ^if 1 = 1", 0);
        fault("turn 1 if^", 0);
        fault("turn 1 if ^;", 0);
        fault("turn 1 if 1 = 1 ^if 1 = 1", 0);
        fault("turn ^[1]", 0);
        fault("turn ^-1", 0);
        fault("turn 1 ^= 1", 0);

        Checks.sentence("TEST: PART { or PART }. PART: FACT { and FACT }.");
        boolean[] truths = {false, true};
        for (boolean a : truths) {
            for (boolean b : truths) {
                for (boolean c : truths) {
                    String fa = a ? "1=1" : "1=2";
                    String fb = b ? "2>1" : "2<1";
                    String fc = c ? "3>=3" : "3>4";
                    holds(fa + " or " + fb + " and " + fc, a || b && c);
                    holds(fa + " and " + fb + " or " + fc, a && b || c);
                    holds(fa + " and " + fb + " and " + fc, a && b && c);
                    holds(fa + " or " + fb + " or " + fc, a || b || c);
                    holds("[" + fa + " or " + fb + "] and " + fc, (a || b) && c);
                    holds(fa + " and [" + fb + " or " + fc + "]", a && (b || c));
                    holds("not " + fa + " and " + fb + " or not " + fc, !a && b || !c);
                    holds("not [" + fa + " and " + fb + "] or " + fc, !(a && b) || c);
                    holds("not not " + fa + " and not [not " + fb + " or " + fc + "]", a && !(!b || c));
                    holds(fa + " and " + fb + " or " + fc + " and " + fa + " or " + fb + " and " + fc, a && b || c && a || b && c);
                }
            }
        }
        fault("turn 1 if 1 = 1 or^", 0);
        fault("turn 1 if 1 = 1 and ^or 1 = 1", 0);
        fault("turn 1 if ^and 1 = 1", 0);
        fault("turn 1 if 1 = 1 or ^or 1 = 1", 0);

        Checks.sentence("FACT: not FACT | [ TEST ] (these brackets are signs) | SUM SIGN SUM, SIGN one of < <= = >= >.");
        int[][] pairs = {{1, 2}, {2, 2}, {3, 2}};
        for (int[] p : pairs) {
            holds(p[0] + " < " + p[1], p[0] < p[1]);
            holds(p[0] + " <= " + p[1], p[0] <= p[1]);
            holds(p[0] + " = " + p[1], p[0] == p[1]);
            holds(p[0] + " >= " + p[1], p[0] >= p[1]);
            holds(p[0] + " > " + p[1], p[0] > p[1]);
            holds("0 - " + p[0] + " < 0 - " + p[1], -p[0] < -p[1]);
            holds("1 + " + p[0] + " * 2 >= " + p[1] + " * 2 + 1", p[0] >= p[1]);
        }
        fault("turn 1 if 1^", 0);
        fault("turn 1 if 1 ^and 1 = 1", 0);
        fault("turn 1 if 1 ^;", 0);
        fault("turn 1 if 1 = 1 ^= 1", 0);
        fault("turn 1 if 1 =^= 1", 0);
        fault("turn 1 if 1 =^< 1", 0);
        fault("turn 1 if 1 <^> 1", 0);
        fault("turn 1 if 1 >=^= 1", 0);
        fault("turn 1 if 1 ^! 1", 0);
        fault("turn 1 if 1 <^", 0);
        fault("turn 1 if [1 = 1^", 0);
        fault("turn 1 if [1 = 1 ^;", 0);
        fault("turn 1 if [1 = 1]^]", 0);
        fault("turn 1 if [^]", 0);
        fault("turn 1 if [1^] = 1", 0);
        fault("turn 1 if [1 = 1] ^= 1", 0);
        fault("turn 1 if 1 = ^[1]", 0);
        fault("turn 1 if 1 = ^not 1", 0);
        fault("turn 1 if not^", 0);
        fault("turn 1 if 1 = 1 ^not 1 = 1", 0);
        fault("turn 1 if 1 = 1 ^[1 = 1]", 0);

        Checks.sentence("SUM: TERM { (+ or -) TERM }. TERM: VALUE { (* or / or %) VALUE }.");
        turns("7 - 2 - 3", 2);
        turns("7 - 2 + 3 - 6", 2);
        turns("1 + 2 * 3 - 5", 2);
        turns("2 * 3 + 1 - 5", 2);
        turns("12 / 3 * 2 - 6", 2);
        turns("17 % 10 * 2 / 5 - 0", 2);
        turns("20 / 3 / 3", 2);
        turns("3 - 20 % 7 / 2 * 2 + 1", -2);
        fault("turn 1 +^", 0);
        fault("turn 1 + ^+ 1", 0);
        fault("turn 1 *^", 0);
        fault("turn 1 * ^- 1", 0);
        fault("turn 1 /^", 0);
        fault("turn 1 %^", 0);
        fault("turn 1 -^", 0);
        fault("turn 1 - ^;", 0);
        fault("turn 1 + ^if 1 = 1", 0);
    }

    private static void numbers() {
        Checks.sentence("VALUE: NUMBER (1 to 5 digits, as far as digits go on) | WORD.");
        turns("0", 0);
        turns("2", 2);
        turns("00002", 2);
        turns("99999 - 99997", 2);
        fault("turn ^000002", 1);
        fault("turn ^100000", 1);
        fault("turn 1 + ^100000", 1);
        fault("turn 1 if ^100000 = 1", 1);
        fault("turn 1 if 1 = ^123456789012345678901234567890", 1);
        fault("turn 1 ^1", 0);
        fault("turn 1 ^hour", 0);
        fault("turn hour ^1", 0);
        fault("turn hour ^hour", 0);
        fault("turn 1^.", 0);
        fault("turn 5^:", 0);
        fault("turn ^:", 0);
        fault("turn ^/", 0);
    }

    private static void words() {
        Checks.sentence("WORDS (small letters, as far as these go on)");
        for (String w : WORDS) {
            taken("turn " + w + " if " + w + "<" + w);
            fault("turn ^" + w.substring(0, w.length() - 1), 0);
            fault("turn ^" + w + "a", 0);
            fault("turn ^" + w + "z", 0);
            fault("turn ^" + w.substring(1), 0);
            fault("turn ^" + w + w, 0);
            fault("turn ^" + w.toUpperCase(), 0);
            fault("turn 1 if 1 = ^" + w + "or", 0);
        }
        taken("turn1if1=1and2=2or not3=3");
        fault("^tur 1", 0);
        fault("^turns 1", 0);
        fault("^turnz 1", 0);
        fault("^turnhour", 0);
        fault("turn" + Checks.times(" ", 393) + "^hou", 0);
        fault("turn 1" + Checks.times(" ", 392) + "if^", 0);
        fault("^Turn 1", 0);
        fault("^ring 1", 0);
        fault("^hour", 0);
        fault("^if 1 = 1", 0);
        fault("turn ^turn", 0);
        fault("turn ^ring", 0);
        fault("turn 1 ^i 1 = 1", 0);
        fault("turn 1 ^iff 1 = 1", 0);
        fault("turn 1 ^ifhour = 1", 0);
        fault("turn 1 ^or 1 = 1", 0);
        fault("turn 1 if ^no 1 = 1", 0);
        fault("turn 1 if ^nots 1 = 1", 0);
        fault("turn 1 if ^nothour = 1", 0);
        fault("turn 1 if 1 = 1 ^an 1 = 1", 0);
        fault("turn 1 if 1 = 1 ^ands 1 = 1", 0);
        fault("turn 1 if 1 = 1 ^o 1 = 1", 0);
        fault("turn 1 if 1 = 1 ^ors 1 = 1", 0);
        fault("turn hour^{", 0);
        fault("turn ^`hour", 0);
    }

    private static void valuesOfWords() {
        Checks.sentence("hour, day, angle, rate (of the HOUR, as told), worn (of the spoke at that ANGLE)");
        String still = "rate 0 22 3;rate 23 23 0";
        for (int h = 0; h < 24; h += 23) {
            TurnRing x = Checks.made("ring 11;" + still);
            for (int i = 0; i < h; i++) x.hour();
            value(x, "hour", h);
        }
        TurnRing x = Checks.made("ring 0;" + still);
        for (int i = 0; i < 23; i++) x.hour();
        value(x, "day", 0);
        x = Checks.made("ring 0;" + still);
        for (int i = 0; i < 24; i++) x.hour();
        value(x, "day", 1);
        value(Checks.made("ring 0"), "angle", 0);
        value(Checks.made("ring 11"), "angle", 11);
        for (int told = 0; told <= 6; told++) value(Checks.made("ring 0;rate 0 0 " + told), "rate", told - 3);
        // a rate that is done by hand, in HOUR 1 and no other, and a STOP
        x = Checks.made("ring 0;rate 0 0 6");
        x.hour();
        x.rate(1, -2);
        x.stop();
        x.stop();
        x.hour();
        x.undo();
        x.undo();
        value(x, "rate", -2);
        // spokes 11, 0 and 1 are worn by three steps on; it stands at 2, then at 1
        x = Checks.made("ring 11;rate 0 0 6;rate 1 1 2");
        x.hour();
        value(x, "worn", 0);
        x = Checks.made("ring 11;rate 0 0 6;rate 1 1 2");
        x.hour();
        x.hour();
        value(x, "worn", 1);

        Checks.sentence("liked (what all HOUSES like now, together), best (the greatest that one likes now), least (the least; both 0 without HOUSES)");
        String three = "ring 0;house 0 1;house 1 2;house 2 4;sight 0 0 0 0;sight 1 1 0 0;sight 2 2 0 0;gate 2;";
        int[][] likings = {{5, 3, 1}, {1, 5, 3}, {3, 1, 5}, {-5, -3, -1}, {-1, -5, -3}, {-3, -1, -5}, {4, -4, 2}, {2, 2, 2}};
        for (int[] l : likings) {
            StringBuilder text = new StringBuilder(three);
            for (int h = 0; h < 3; h++) text.append(h > 0 ? ";" : "").append(l[h] > 0 ? "likes " : "loathes ").append(h + " " + h + " " + Math.abs(l[h]));
            value(Checks.made(text.toString()), "liked", l[0] + l[1] + l[2]);
            value(Checks.made(text.toString()), "best", Math.max(l[0], Math.max(l[1], l[2])));
            value(Checks.made(text.toString()), "least", Math.min(l[0], Math.min(l[1], l[2])));
        }
        value(Checks.made("ring 0;sight 0 0 0 0"), "liked", 0);
        value(Checks.made("ring 0;sight 0 0 0 0"), "best", 0);
        value(Checks.made("ring 0;sight 0 0 0 0"), "least", 0);
        value(Checks.made("ring 0;house 0 1;sight 0 0 0 0;loathes 0 0 9"), "best", -9);
        value(Checks.made("ring 0;house 0 1;sight 0 0 0 0;likes 0 0 9"), "least", 9);

        Checks.sentence("stays (VOTES of HOUSES who want it to stay), votes (of all), gates (HOUSES that face a gate), stops (how often STOP was done)");
        value(Checks.made(three + "likes 0 0 1;likes 1 1 1;loathes 2 2 1"), "stays", 3);
        value(Checks.made(three + "loathes 1 2 1"), "stays", 2);
        value(Checks.made(three + "likes 2 2 1"), "stays", 4);
        value(Checks.made("ring 0"), "stays", 0);
        value(Checks.made(three + "likes 0 0 1"), "votes", 7);
        value(Checks.made("ring 0"), "votes", 0);
        value(Checks.made(three + "gate 0"), "gates", 2);
        value(Checks.made(three + "gate 0;gate 1"), "gates", 3);
        value(Checks.made(three + "gate 11"), "gates", 1);
        value(Checks.made("ring 0;gate 0"), "gates", 0);
        x = Checks.made("ring 0");
        value(x, "stops", 0);
        x = Checks.made("ring 0");
        for (int i = 0; i < 3; i++) {
            x.stop();
            x.stop();
            x.hour();
        }
        x.stop();
        x.undo();
        value(x, "stops", 3);
    }

    private static void arithmetic() {
        Checks.sentence("/ is towards 0, % its rest, both 0 by 0; all goes round in 64 bits.");
        // rate is -3
        turns("rate / 2", -1);
        turns("rate % 2", -1);
        turns("3 / rate", -1);
        turns("5 / rate", -1);
        turns("5 % rate", 2);
        turns("rate / rate", 1);
        turns("rate / 4", 0);
        turns("rate % 4", -3);
        turns("2 + 5 / 0", 2);
        turns("2 + 5 % 0", 2);
        turns("2 + 0 / 0", 2);
        turns("2 + rate / 0", 2);
        turns("2 + rate % 0 * 5", 2);
        turns("2 + 5 / hour", 2);
        String twoTo63 = "65536 * 65536 * 65536 * 32768";
        turns(twoTo63, -3);
        turns(twoTo63 + " - 1", 3);
        turns("1 + 65536 * 65536 * 65536 * 65536", 1);
        turns(twoTo63 + " + " + twoTo63, 0);
        turns(twoTo63 + " / " + "1", -3);
        // the least of all by -1 is itself again, and its rest 0
        turns("65536 * 65536 * 65536 * 32768 / rate", 3);
        holds("0 - 65536 * 65536 * 65536 * 32768 < 0", true);
        holds("65536 * 65536 * 65536 * 32768 < 0", true);
        holds("65536 * 65536 > 99999", true);
        holds("65536 * 65536 * 65536 * 32767 > 65536 * 65536 * 65536 * 32766", true);
        TurnRing x = Checks.made("ring 5;rate 0 0 2", "turn 65536 * 65536 * 65536 * 32768 / rate", "turn 2 + 65536 * 65536 * 65536 * 32768 % rate");
        x.rate(1, -1);
        Checks.due("the least / -1", steps(x, 0), -3);
        Checks.due("2 and the rest of the least by -1", steps(x, 1), 2);
    }

    private static void blanks() {
        Checks.sentence("Blanks (32) stand between as one likes.");
        taken("   turn   1   if   not   [   1   <=   1   ]   or   1   >   2   ;   turn   2   *   3   ");
        taken("turn 1if[1<=1]or 1>2;turn2*3");
        holds("2<=2", true);
        holds("2   <=   2", true);
        holds("2>=2and 1=1", true);
        fault("turn 1 if 1 < ^= 1", 0);
        fault("turn 1 if 1 > ^= 1", 0);
        fault("turn 1 if 1 = ^= 1", 0);
        fault("turn 1 ^2", 0);
        fault("turn ^ho ur", 0);
        fault("turn 1 ^i f 1 = 1", 0);
        int[] others = {0, 9, 10, 13, 31, 33, 95, 160, 255};
        for (int c : others) {
            fault("turn^" + (char) c + "1", 0);
            fault("turn 1^" + (char) c, 0);
            fault("^" + (char) c + "turn 1", 0);
            fault("turn 1 if 1^" + (char) c + "= 1", 0);
            fault("turn 1 if 1 =^" + (char) c + "1", 0);
        }
    }

    private static void depth() {
        Checks.sentence("[ and not lie within one another 10 deep at most");
        holds(Checks.times("[", 10) + "1=1" + Checks.times("]", 10), true);
        holds(Checks.times("[", 10) + "1=2" + Checks.times("]", 10), false);
        fault("turn 1 if " + Checks.times("[", 10) + "^[1=1" + Checks.times("]", 11), 2);
        holds(Checks.times("not ", 10) + "1=1", true);
        holds(Checks.times("not ", 9) + "1=1", false);
        fault("turn 1 if " + Checks.times("not ", 10) + "^not 1=1", 2);
        holds(Checks.times("not[", 5) + "1=1" + Checks.times("]", 5), false);
        fault("turn 1 if " + Checks.times("not[", 5) + "^not 1=1" + Checks.times("]", 5), 2);
        fault("turn 1 if " + Checks.times("not[", 5) + "  ^[1=1" + Checks.times("]", 6), 2);
        fault("turn 1 if " + Checks.times("[not ", 5) + "^[1=1" + Checks.times("]", 6), 2);
        // one behind the other they are not within one another
        String ten = Checks.times("[", 10) + "1=1" + Checks.times("]", 10);
        holds(ten + " and " + ten + " and not 1=2 and " + Checks.times("not ", 10) + "1=1", true);
        holds("[1=1 and " + Checks.times("[", 9) + "1=1" + Checks.times("]", 9) + " and [1=1]] and [" + Checks.times("not ", 9) + "1=2]", true);
        fault("turn 1 if 1=1 and [1=1 or " + Checks.times("[", 9) + "1=1 or ^[1=1]", 2);
        fault("turn 1;turn 1 if " + Checks.times("[", 10) + "1=1" + Checks.times("]", 10) + " or " + Checks.times("[", 10) + "^not 1=1", 2);
        // each level holds what is on its left: or, and, and a SUM that is not done yet
        String left = Checks.times("1=2 or 1=1 and [", 8) + "1=2 or [1=2 or [";
        holds(left + "7=1+2*3" + Checks.times("]", 10), true);
        holds(left + "8=1+2*3" + Checks.times("]", 10), false);
    }

    private static void valuesAndFacts() {
        Checks.sentence("at most 60 VALUES (of SUMS) and FACTS made of a SIGN, together");
        String sixty = "turn 1" + Checks.times("-1", 56) + "+1+1+57";
        TurnRing x = Checks.made("ring 0", sixty);
        Checks.due("60 values, the last with them", steps(x, 0), 3);
        fault(sixty + " +   ^1", 3);
        fault(sixty + "*^hour", 3);
        fault(sixty + ";turn ^1", 3);
        fault(sixty + " if ^hour = 1", 3);
        fault(sixty + " if not [^1 = 1]", 3);
        // 3 and 19 FACTS of 3 are 60
        String facts = " if 1=1" + Checks.times("and 1=1", 17);
        x = Checks.made("ring 0", "turn 1+1+1" + facts + "and 1=1");
        Checks.due("60 with 19 facts", steps(x, 0), 3);
        x = Checks.made("ring 0", "turn 1+1+1" + facts + "and 1=2");
        Checks.due("the last fact with them", steps(x, 0), 0);
        fault("turn 1+1+1+1" + facts + "and 1=^1", 3);
        fault("turn 1+1+1+1+1" + facts + "and 1 ^=1", 3);
        fault("turn 1+1+1+1+1" + facts + "and 1 ^<= 1", 3);
        fault("turn 1+1+1+1+1+1" + facts + "and  ^1=1", 3);
        fault("turn 1+1+1" + facts + "and 1=1+^1", 3);
        fault("turn 1+1+1" + facts + "and 1=1 or ^1=1", 3);
        // not and [ ] are none of them
        x = Checks.made("ring 0", "turn 1+1+1" + facts + "and not[not[1=1]]");
        Checks.due("60 with not and brackets", steps(x, 0), 3);
        // each RULE has its own
        x = Checks.made("ring 0", sixty, sixty);
        Checks.due("60 in another rule", steps(x, 1), 3);
        Checks.due("behind a fault", Checks.rule(x, sixty + "+1"), Checks.fault(sixty.length() + 1, 3));
        Checks.due("60 again", Checks.rule(x, sixty), 2);
    }

    private static void endsAndBytes() {
        Checks.sentence("0 a byte or WORD that can't stand there, or the end (behind the last byte)");
        fault("turn   ^", 0);
        fault("turn 1 +  ^", 0);
        fault("turn 1 if  ^", 0);
        fault("turn 1 if not  ^", 0);
        fault("turn 1 if [  ^", 0);
        fault("turn 1 if 1  ^", 0);
        fault("turn 1 if 1 =  ^", 0);
        fault("turn 1 if [1 = 1  ^", 0);
        fault("turn 1 if 1 = 1 and  ^", 0);
        fault("turn 1 if 1 = 1 or  ^", 0);
        fault("turn 1 ;  ^", 0);
        for (int c = 0; c < 256; c++) {
            boolean mayFollow = c == ' ' || c == ';' || c >= '0' && c <= '9' || "+-*/%^".indexOf(c) >= 0;
            if (!mayFollow) fault("turn 3^" + (char) c, 0);
            boolean isSign = "<=>".indexOf(c) >= 0;
            boolean mayFollowSum = c != ';' && mayFollow || isSign;
            if (!mayFollowSum) fault("turn 3 if 3^" + (char) c + "3", 0);
            boolean mayFollowFact = mayFollow || c == ']';
            if (!mayFollowFact) fault("turn 3 if [3=3^" + (char) c, 0);
        }
    }

    private static void kindsOfFaults() {
        Checks.sentence("1 a NUMBER of more digits, or not as told (a SLOT that is taken)");
        fault("turn   ^000000", 1);
        fault("turn 1 if 1 <   ^100000", 1);
        taken("turn 99999 if 99999 < 99999");

        Checks.sentence("2 too deep (at the sign that opens, or the word not)");
        fault("turn 1 if " + Checks.times("not ", 10) + "  ^[1=1]", 2);
        fault("turn 1 if " + Checks.times("[", 10) + "  ^not 1=1", 2);
        taken("turn 1 if " + Checks.times("[", 9) + "  not 1=1" + Checks.times("]", 9));

        Checks.sentence("3 one VALUE or FACT too many (at its first byte; of a FACT at its SIGN)");
        fault("turn 1" + Checks.times("+1", 59) + "+  ^12345", 3);
        fault("turn 1" + Checks.times("+1", 59) + "+  ^stops", 3);
        fault("turn 1" + Checks.times("+1", 58) + " if 12345  ^>= 1", 3);
        taken("turn 1" + Checks.times("+1", 56) + " if 12345  >= 1");

        Checks.sentence("4 one CLAUSE too many, a second ring, another CLAUSE ahead of it, an eighth HOUSE, a 13th SIGHT (at its first byte)");
        fault("turn 1" + Checks.times(";turn 1", 11) + ";  ^turn 1", 4);
        fault("turn 1 if 1=1" + Checks.times(";turn 1", 11) + ";^turn 1 if 1=1", 4);
    }

    private static void severalFaults() {
        Checks.sentence("FAULTS, the first along the text, 1 + 8 * its place and:");
        fault("turn ^x;turn 123456", 0);
        fault("turn ^123456;turn x", 1);
        fault("turn 1 if " + Checks.times("[", 10) + "^[" + "123456", 2);
        fault("turn 1 if ^123456 = [", 1);
        fault("turn 1" + Checks.times("+1", 59) + "+^1+x", 3);
        fault("turn 1" + Checks.times("+1", 58) + "+^x+1+1", 0);
        fault("turn 1" + Checks.times(";turn 1", 11) + ";^turn x", 4);
        fault("turn 1" + Checks.times(";turn 1", 10) + ";turn ^x;turn 1", 0);
        Checks.due("place 0, kind 0", Checks.rule(new TurnRing(), "x"), -3);
        Checks.due("place 5, kind 1", Checks.rule(new TurnRing(), "turn 123456"), -2 - 42);

        Checks.sentence("Of one place the least.");
        String sixty = "turn 1" + Checks.times("+1", 59);
        fault(sixty + "+^123456", 1);
        fault(sixty + "+^x", 0);
        fault(sixty + "+^", 0);
        fault(sixty + "+^;", 0);
        fault(sixty + "+^if", 0);
        String facts = "turn 1" + Checks.times("+1", 58) + " if 1 ";
        fault(facts + "^!", 0);
        fault(facts + "^", 0);
        fault(facts + "^=", 3);
        fault("turn 1 if " + Checks.times("[", 10) + "1=1 ^[", 0);
        fault("turn 1 if " + Checks.times("[", 10) + "1=1 ^not", 0);
        fault("turn 1 if " + Checks.times("[", 10) + "^nots", 0);
        fault("turn 1 if " + Checks.times("[", 10) + "1=^[", 0);
        String twelve = "turn 1" + Checks.times(";turn 1", 11);
        fault(twelve + ";^", 0);
        fault(twelve + ";^turns 1", 0);
        fault(twelve + ";^;", 0);
        fault(twelve + ";^123456", 0);
    }
}
