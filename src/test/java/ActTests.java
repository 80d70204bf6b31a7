/** Promises 6 to 15, 29 and 31 to 33: how it is, ACTS, RULES that turn it, acts undone, images. */
public final class ActTests {
    private static final int LEAST = Integer.MIN_VALUE;
    private static final int MOST = Integer.MAX_VALUE;

    public static void main(String[] args) {
        houses();
        directions();
        ratesAndSpokes();
        hours();
        rateSwapStop();
        undone();
        byRules();
        words();
        seeds();
        counts();
        images();
        lastDay();
        Checks.finish();
    }

    private static void houses() {
        TurnRing x = Checks.made(Stands.RING);
        int[][] want = {{0, 2, 10, 4, 0, 1, 0}, {6, 1, 4, 0, 0, 1, 0}, {3, 3, 1, 0, 0, 0, 0}};
        for (int h = 0; h < 3; h++) {
            for (int what = 0; what <= 6; what++) Checks.due("house " + h + " " + what, x.house(h, what), want[h][what]);
        }
        int[] likes = {1, -5, 0, 0, 0};
        for (int sort = 0; sort < 5; sort++) Checks.due("house 1 likes " + sort, x.house(1, 100 + sort), likes[sort]);
        int[] others = {-1, 7, 99, 105, LEAST, MOST};
        for (int what : others) Checks.due("house what " + what, x.house(0, what), -1000);
        int[] noHouse = {-1, 3, LEAST, MOST};
        for (int h : noHouse) Checks.due("house " + h, x.house(h, 0), -1000);
        x.hour();
        // ANGLE 11, HOUR 1: HOUSE 0 faces 11 and sees SORT 0, by the turn it would face 0
        Checks.due("faces", x.house(0, 2), 11);
        Checks.due("sees", x.house(0, 3), 1);
        Checks.due("likes", x.house(0, 4), 4);
        Checks.due("wants it to stay", x.house(0, 6), 1);
        x.rate(1, 0);
        Checks.due("no turn, no wish", x.house(0, 6), 0);
        x.rate(1, -3);
        x.stop();
        Checks.due("the turn is as told, stopped or not", x.house(0, 6), 1);
        x = Checks.made("ring 0;house 0 1;sight 1 0 0 23;sight 1 0 2 3;sight 3 0 0 23;likes 0 1 5;loathes 0 3 7");
        Checks.due("each sort once, together", x.house(0, 4), -2);
        Checks.due("as bits", x.house(0, 3), 10);
        Checks.due("likes it less than what comes", x.house(0, 6), 0);
        x = Checks.made("ring 7;house 5 1;sight 2 0 0 0;gate 0");
        Checks.due("12 is 0", x.house(0, 2), 0);
        Checks.due("sees at 0", x.house(0, 3), 4);
        Checks.due("a gate at 0", x.house(0, 5), 1);
        x = Checks.made("ring 0;house 0 1;sight 0 1 0 0;loathes 0 0 1");
        Checks.due("0 is more than less than 0", x.house(0, 6), 1);
        x = Checks.made("ring 0;house 0 1;sight 0 0 0 0;sight 0 1 1 1;likes 0 0 1");
        Checks.due("behind the turn, but in this hour", x.house(0, 6), 1);
    }

    private static void directions() {
        TurnRing x = Checks.made(Stands.RING);
        for (int d = 0; d < 12; d++) {
            Checks.due("who faces " + d, x.direction(d, 0), d == 10 ? 0 : d == 4 ? 1 : d == 1 ? 2 : -1);
            Checks.due("gate at " + d, x.direction(d, 1), d == 10 || d == 4 ? 1 : 0);
            Checks.due("sorts at " + d, x.direction(d, 2), d == 10 ? 4 : d == 11 ? 1 : 0);
        }
        Checks.due("direction -1", x.direction(-1, 0), -2);
        Checks.due("direction 12", x.direction(12, 0), -2);
        Checks.due("what -1", x.direction(0, -1), -2);
        Checks.due("what 3", x.direction(0, 3), -2);
        Checks.due("direction least", x.direction(LEAST, 2), -2);
        Checks.due("direction most", x.direction(MOST, 2), -2);
        x = Checks.made("ring 0;sight 2 3 4 5;rate 0 23 3");
        int[] seen = {0, 0, 0, 0, 4, 4, 0};
        for (int h = 0; h < seen.length; h++) {
            Checks.due("between whose hours it is, hour " + h, x.direction(3, 2), seen[h]);
            x.hour();
        }
    }

    private static void ratesAndSpokes() {
        TurnRing x = Checks.made(Stands.RING);
        for (int h = 0; h < 24; h++) Checks.due("rateOf " + h, x.rateOf(h), h >= 5 && h <= 7 ? 0 : 1);
        Checks.due("rateOf -1", x.rateOf(-1), -1000);
        Checks.due("rateOf 24", x.rateOf(24), -1000);
        Checks.due("worn -1", x.worn(-1), -1);
        Checks.due("worn 12", x.worn(12), -1);
        Checks.due("worn least", x.worn(LEAST), -1);
        for (int spoke = 0; spoke < 12; spoke++) Checks.due("worn " + spoke, x.worn(spoke), 0);
    }

    private static void worn(String when, TurnRing x, int... want) {
        for (int spoke = 0; spoke < 12; spoke++) Checks.due(when + ": worn " + spoke, x.worn(spoke), want[spoke]);
    }

    private static void hours() {
        TurnRing x = Checks.made("ring 10;rate 0 0 6;rate 1 1 0;rate 2 2 3;rate 3 3 2");
        Checks.due("3 steps on", x.hour(), 1);
        worn("3 on", x, 1, 0, 0, 0, 0, 0, 0, 0, 0, 0, 1, 1);
        Checks.due("3 steps back", x.hour(), 10);
        worn("3 back", x, 2, 1, 0, 0, 0, 0, 0, 0, 0, 0, 1, 2);
        Checks.due("no step", x.hour(), 10);
        Checks.due("1 step back", x.hour(), 9);
        worn("1 back", x, 2, 1, 0, 0, 0, 0, 0, 0, 0, 0, 2, 2);
        Checks.due("hour", x.count(5), 4);
        x.stop();
        Checks.due("stopped: no turn", x.hour(), 9);
        Checks.due("stopped no more", x.count(8), 0);
        Checks.due("hour", x.count(5), 5);
        Checks.due("1 step on", x.hour(), 10);
        for (int i = 6; i < 23; i++) x.hour();
        Checks.due("hour 23", x.count(5), 23);
        Checks.due("day 0", x.count(6), 0);
        x.hour();
        Checks.due("hour 0", x.count(5), 0);
        Checks.due("day 1", x.count(6), 1);
    }

    private static void rateSwapStop() {
        TurnRing x = Checks.made(Stands.RING);
        Checks.due("rate: which it was", x.rate(0, -3), 1);
        Checks.due("rate: which it was", x.rate(0, 3), -3);
        Checks.due("rateOf", x.rateOf(0), 3);
        int[][] wrong = {{-1, 0}, {24, 0}, {0, 4}, {0, -4}, {LEAST, LEAST}, {MOST, MOST}};
        for (int[] w : wrong) Checks.due("rate " + w[0] + " " + w[1], x.rate(w[0], w[1]), -1000);
        Checks.due("acts", x.count(11), 2);
        Checks.due("turns by it", x.hour(), 1);

        x = Checks.made(Stands.RING);
        Checks.due("swap", x.swap(0, 2), true);
        Checks.due("slot", x.house(0, 0), 3);
        Checks.due("slot", x.house(2, 0), 0);
        Checks.due("votes go along", x.house(2, 1), 3);
        Checks.due("swap with itself", x.swap(1, 1), false);
        Checks.due("swap with none", x.swap(0, 3), false);
        Checks.due("swap with none", x.swap(-1, 0), false);
        Checks.due("swap with none", x.swap(MOST, LEAST), false);
        Checks.due("acts", x.count(11), 1);

        x = Checks.made(Stands.RING);
        Checks.due("stop", x.stop(), true);
        Checks.due("stopped", x.count(8), 1);
        Checks.due("stop again", x.stop(), false);
        Checks.due("stops", x.count(9), 1);
        x.hour();
        Checks.due("stop anew", x.stop(), true);
        Checks.due("stops", x.count(9), 2);
        Checks.due("acts", x.count(11), 3);
    }

    private static void undone() {
        TurnRing x = Checks.made(Stands.RING);
        Checks.due("none", x.undo(), -1);
        x.rate(0, 3);
        x.swap(0, 1);
        x.stop();
        x.hour();
        x.hour();
        Checks.due("hour undone", x.undo(), 4);
        Checks.due("angle", x.count(4), 10);
        worn("hour undone", x, 0, 0, 0, 0, 0, 0, 0, 0, 0, 0, 0, 0);
        Checks.due("stopped hour undone", x.undo(), 3);
        Checks.due("stopped again", x.count(8), 1);
        Checks.due("hour", x.count(5), 0);
        Checks.due("stop undone", x.undo(), 2);
        Checks.due("not stopped", x.count(8), 0);
        Checks.due("never stopped", x.count(9), 0);
        Checks.due("swap undone", x.undo(), 1);
        Checks.due("slot", x.house(0, 0), 0);
        Checks.due("rate undone", x.undo(), 0);
        Checks.due("rate", x.rateOf(0), 1);
        Checks.due("none more", x.undo(), -1);

        x = Checks.made("ring 1;rate 0 0 0;rate 1 1 2");
        x.hour();
        x.hour();
        Checks.due("a step back undone", x.undo(), 1);
        Checks.due("angle", x.count(4), 10);
        worn("a step back undone", x, 1, 1, 0, 0, 0, 0, 0, 0, 0, 0, 0, 1);
        Checks.due("three steps back undone", x.undo(), 0);
        Checks.due("angle", x.count(4), 1);
        Checks.due("it was not stopped", x.count(8), 0);
        worn("three steps back undone", x, 0, 0, 0, 0, 0, 0, 0, 0, 0, 0, 0, 0);

        x = Checks.made("ring 0;rate 0 23 6");
        for (int i = 0; i < 25; i++) x.hour();
        Checks.due("the last 20", x.count(11), 20);
        for (int left = 19; left >= 0; left--) Checks.due("undo", x.undo(), left);
        Checks.due("no more of the 25", x.undo(), -1);
        Checks.due("hour", x.count(5), 5);
        Checks.due("day", x.count(6), 0);
        Checks.due("angle", x.count(4), 3);
        worn("20 undone", x, 2, 2, 2, 1, 1, 1, 1, 1, 1, 1, 1, 1);
        x.seed(5);
        x.diary(0, 0, 0, true);
        Checks.due("seed and diary are no acts", x.undo(), -1);
    }

    private static void byRules() {
        TurnRing x = Checks.made(Stands.RING, "turn 0 - 1 if hour < 2;turn rate * 2", "turn 2 if hour > 90", "turn 99999", "turn 0 - 99999");
        x.hour();
        // HOUR 1: back to 10; 2, 3, 4: two each; 5: none
        Checks.due("run", x.run(0, 5), 4);
        Checks.due("hour", x.count(5), 6);
        Checks.due("nothing can be undone", x.undo(), -1);
        worn("by a rule", x, 1, 1, 1, 1, 0, 0, 0, 0, 0, 0, 2, 2);
        Checks.due("0 without a clause that holds", x.run(1, 10), 4);
        Checks.due("held to 3", x.run(2, 1), 7);
        Checks.due("held to -3", x.run(3, 1), 4);
        x.stop();
        Checks.due("stopped in the first", x.run(2, 2), 7);
        Checks.due("stopped no more", x.count(8), 0);
        int[][] wrong = {{-1, 1}, {4, 1}, {0, 0}, {0, 97}, {0, -1}, {LEAST, MOST}, {MOST, LEAST}};
        x.stop();
        for (int[] w : wrong) Checks.due("run " + w[0] + " " + w[1], x.run(w[0], w[1]), -1);
        Checks.due("nothing happens", x.count(11), 1);
        Checks.due("96 hours", x.run(1, 96), 7);
        Checks.due("day", x.count(6), 4);
        x = new TurnRing();
        Checks.rule(x, "turn 1");
        Checks.due("run without a ring", x.run(0, 1), -1);
    }

    /** How far a RULE turns in one HOUR of a Stands.RING, by its ANGLE behind it less 5 (ahead of it 5). */
    private static void turns(String sum, int want) {
        TurnRing x = Checks.made("ring 5", "turn " + sum);
        Checks.due("turn " + sum, x.run(0, 1) - 5, want);
    }

    private static void holds(String test, boolean want) {
        TurnRing x = Checks.made("ring 5", "turn 1 if " + test);
        Checks.due("if " + test, x.run(0, 1) - 5, want ? 1 : 0);
    }

    private static void word(TurnRing x, String word, int want) {
        Checks.due("a rule of " + word, Checks.rule(x, "turn 1 if " + word + " = 0 + " + Math.max(want, 0) + " - " + Math.max(-want, 0)), x.count(3) - 1);
        x.image(3);
        int angle = x.count(4);
        Checks.due("word " + word + " is " + want, x.run(x.count(3) - 1, 1), (angle + 1) % 12);
        x.back(3);
    }

    private static void words() {
        turns("7 - 2 - 3", 2);
        turns("2 + 3 * 4 - 12", 2);
        turns("20 / 3 / 3", 2);
        turns("0 - 7 / 3 + 0", -2);
        turns("1 - 8 % 3", -1);
        turns("17 % 10 % 5", 2);
        turns("2 * 3 % 4", 2);
        turns("5 / 0 + 2", 2);
        turns("5 % 0 + 2", 2);
        turns("1 - 0 / 5", 1);
        // 65536 four times is 2 to the 64th: it goes round
        turns("65536 * 65536 * 65536 * 65536 + 1", 1);
        turns("65536 * 65536 * 65536 * 32768", -3);
        turns("65536 * 65536 * 65536 * 32768 - 1", 3);
        Checks.due("-3 / 2 is towards 0", Checks.made("ring 5;rate 0 0 0", "turn rate / 2").run(0, 1), 4);
        Checks.due("-3 % 2 is its rest", Checks.made("ring 5;rate 0 0 0", "turn rate % 2").run(0, 1), 4);
        holds("1 < 2", true);
        holds("2 < 2", false);
        holds("2 <= 2", true);
        holds("3 <= 2", false);
        holds("2 = 2", true);
        holds("2 = 3", false);
        holds("2 >= 2", true);
        holds("2 >= 3", false);
        holds("3 > 2", true);
        holds("2 > 2", false);
        holds("1 = 1 or 1 = 1 and 1 = 2", true);
        holds("[1 = 1 or 1 = 1] and 1 = 2", false);
        holds("1 = 2 and 1 = 1 or 1 = 1", true);
        holds("not 1 = 2 and 1 = 2", false);
        holds("not [1 = 2 and 1 = 2]", true);
        holds("not not 1 = 1", true);
        holds("1 = 2 or 1 = 2 or 1 = 1 and not 2 < 1", true);

        String ring = "ring 10;house 0 2;house 6 1;house 3 3;sight 0 11 0 23;sight 1 5 0 23;sight 0 1 1 3;sight 2 2 0 2;"
                + "likes 0 0 4;loathes 1 1 5;likes 2 0 9;likes 2 2 3;gate 11;gate 5;rate 1 1 5";
        // HOUR 1, ANGLE 11, rate 2: HOUSE 0 faces 11 (likes 4) and would face 1 (4), 1 faces 5 (-5), 2 faces 2 (3) and would face 4 (0)
        Object[][] wants = {{"hour", 1}, {"day", 0}, {"angle", 11}, {"rate", 2}, {"worn", 0}, {"liked", 2}, {"best", 4},
            {"least", -5}, {"stays", 3}, {"votes", 6}, {"gates", 2}};
        for (Object[] want : wants) {
            TurnRing turned = Checks.made(ring);
            turned.hour();
            word(turned, (String) want[0], (Integer) want[1]);
            TurnRing stopped = Checks.made(ring.replace("ring 10", "ring 11"));
            stopped.stop();
            stopped.hour();
            word(stopped, (String) want[0], (Integer) want[1]);
        }
        // HOUSE 1 likes most and HOUSE 2 least, one HOUSE alone both
        TurnRing three = Checks.made("ring 0;house 0 1;house 1 1;house 2 1;sight 0 1 0 0;sight 1 2 0 0;likes 1 0 6;loathes 2 1 8");
        word(three, "best", 6);
        word(three, "least", -8);
        TurnRing good = Checks.made("ring 0;house 0 1;house 1 1;sight 0 0 0 0;sight 0 1 0 0;likes 0 0 6;likes 1 0 8");
        word(good, "best", 8);
        word(good, "least", 6);
        TurnRing bad = Checks.made("ring 0;house 0 1;sight 0 0 0 0;loathes 0 0 6");
        word(bad, "best", -6);
        word(bad, "least", -6);
        TurnRing stops = Checks.made(ring);
        stops.stop();
        stops.hour();
        stops.stop();
        stops.hour();
        stops.stop();
        stops.undo();
        word(stops, "stops", 2);
        TurnRing empty = Checks.made("ring 3");
        word(empty, "best", 0);
        word(empty, "least", 0);
        word(empty, "liked", 0);
        TurnRing day = Checks.made("ring 3;rate 0 23 3", "turn 0");
        day.run(0, 50);
        word(day, "day", 2);
        TurnRing spoke = Checks.made("ring 3;rate 0 0 6;rate 1 1 0");
        spoke.hour();
        spoke.hour();
        word(spoke, "worn", 1);
        word(Checks.made("ring 3;rate 0 0 0"), "rate", -3);
    }

    private static void seeds() {
        TurnRing x = new TurnRing();
        Checks.due("seed", x.seed(MOST), 0);
        Checks.due("below 0", x.seed(-1), -1);
        Checks.due("below 0", x.seed(LEAST), -1);
        Checks.due("what it was", x.seed(0), MOST);
        Checks.due("what it was", x.seed(7), 0);
        Checks.due("x", x.count(12), 7);
    }

    private static void counts() {
        TurnRing x = Checks.made(Stands.RING, "turn 1");
        x.hour();
        x.stop();
        x.seed(11);
        x.diary(0, 0, 0, true);
        Checks.tape(x, "abc");
        int[] want = {3, 4, (1 << 10) + (1 << 4), 1, 11, 1, 0, 4, 1, 1, 1, 2, 11, 3, 6};
        for (int what = 0; what <= 14; what++) Checks.due("count " + what, x.count(what), want[what]);
        Checks.due("count -1", x.count(-1), -100000);
        Checks.due("count 15", x.count(15), -100000);
        Checks.due("count least", x.count(LEAST), -100000);
        Checks.due("count most", x.count(MOST), -100000);
    }

    private static void images() {
        TurnRing x = Checks.made(Stands.RING, "turn 1");
        Checks.due("image", x.image(0), 0);
        Checks.due("image -1", x.image(-1), -1);
        Checks.due("image 4", x.image(4), -1);
        Checks.due("back 1", x.back(1), -1);
        Checks.due("back -1", x.back(-1), -1);
        Checks.due("back 4", x.back(4), -1);
        x.run(0, 30);
        x.swap(0, 2);
        x.rate(3, 3);
        x.seed(77);
        x.stop();
        x.diary(1, 2, 3, true);
        Checks.due("image", x.image(3), 1);
        Checks.due("an image leaves the acts", x.count(11), 3);
        Checks.rule(x, "turn 2");
        Checks.tape(x, "xy");
        Checks.due("back", x.back(0), 0);
        int[] first = {3, 4, (1 << 10) + (1 << 4), 2, 10, 0, 0, 0, 0, 0, 0, 0, 0, 2, 6};
        for (int what = 0; what <= 14; what++) Checks.due("back: count " + what, x.count(what), first[what]);
        Checks.due("slot", x.house(0, 0), 0);
        Checks.due("rate", x.rateOf(3), 1);
        worn("back", x, 0, 0, 0, 0, 0, 0, 0, 0, 0, 0, 0, 0);
        Checks.due("nothing can be undone", x.undo(), -1);
        x.hour();
        Checks.due("back to the other", x.back(3), 1);
        Checks.due("slot", x.house(0, 0), 3);
        Checks.due("rate", x.rateOf(3), 3);
        Checks.due("x", x.count(12), 77);
        Checks.due("stopped", x.count(8), 1);
        Checks.due("diary", x.count(10), 1);
        worn("back to the other", x, 3, 3, 3, 3, 2, 2, 2, 2, 2, 2, 3, 3);
        Checks.ring(x, "ring 1");
        Checks.due("images stay with another ring", x.back(3), 1);
        Checks.due("houses", x.count(0), 3);
        x.hour();
        Checks.due("an image stays as it was", x.back(3), 1);
        Checks.due("hour", x.count(5), 6);

        x = Checks.made(Stands.RING);
        x.diary(0, 0, 2, true);
        x.diary(2, 24, 0, false);
        int[] turned = {x.turned(0), x.turned(1), x.turned(2)};
        x.image(1);
        Checks.ring(x, "ring 0;house 9 9;house 8 9;house 7 9;house 1 4;sight 4 4 4 4;likes 0 0 9;loathes 2 3 3;rate 0 23 0");
        x.diary(1, 1, 1, true);
        x.diary(1, 1, 1, true);
        x.back(1);
        int[][] want = {{0, 2, 10, 4, 0, 1, 0}, {6, 1, 4, 0, 0, 1, 0}, {3, 3, 1, 0, 0, 0, 0}};
        for (int h = 0; h < 3; h++) {
            for (int what = 0; what <= 6; what++) Checks.due("back behind a ring: house " + h + " " + what, x.house(h, what), want[h][what]);
        }
        int[] likes = {4, 0, 0, 0, 0, 1, -5, 0, 0, 0, 0, 0, 3, 0, 0};
        for (int i = 0; i < 15; i++) Checks.due("back behind a ring: likes " + i, x.house(i / 5, 100 + i % 5), likes[i]);
        for (int h = 0; h < 24; h++) Checks.due("back behind a ring: rateOf " + h, x.rateOf(h), h >= 5 && h <= 7 ? 0 : 1);
        int[] counts = {3, 4, (1 << 10) + (1 << 4), 0, 10, 0, 0, 0, 0, 0, 2, 0, 0, 0, 6};
        for (int what = 0; what <= 14; what++) Checks.due("back behind a ring: count " + what, x.count(what), counts[what]);
        for (int what = 0; what <= 2; what++) Checks.due("back behind a ring: turned " + what, x.turned(what), turned[what]);

        TurnRing y = new TurnRing();
        Checks.due("an image without a ring", y.image(2), 0);
        Checks.ring(y, "ring 1;house 1 1");
        Checks.due("back to no ring", y.back(2), 0);
        Checks.due("no ring", y.rateOf(0), -1000);
        Checks.due("no house", y.count(0), 0);
    }

    private static void lastDay() {
        TurnRing x = Checks.made("ring 0", "turn 0");
        for (int i = 0; i < 249; i++) x.run(0, 96);
        Checks.due("day 996", x.count(6), 996);
        Checks.due("to hour 0 of day 1000", x.run(0, 96), -1);
        Checks.due("to hour 22 of day 999", x.run(0, 94), 0);
        Checks.due("an hour to the last", x.hour(), 1);
        Checks.due("undone", x.undo(), 0);
        Checks.due("no two more", x.run(0, 2), -1);
        Checks.due("to hour 23 of day 999", x.run(0, 1), 0);
        Checks.due("day", x.count(6), 999);
        Checks.due("hour", x.count(5), 23);
        Checks.due("no hour more", x.hour(), -1);
        Checks.due("no run more", x.run(0, 1), -1);
        Checks.due("no act", x.count(11), 0);
        Checks.due("asked beyond it", x.trade(0), 1);
    }
}
