/** The bounds of how it stands, of ACTS, RULES, draws and IMAGES, sentence by sentence: promises 6 to 15, 29, 31 to 33 and Terms II. */
public final class ActBounds {
    private static final int LEAST = Integer.MIN_VALUE;
    private static final int MOST = Integer.MAX_VALUE;

    public static void main(String[] args) {
        facesAndSees();
        wants();
        ofHouses();
        ofDirections();
        ofRatesAndSpokes();
        anHour();
        lastHour();
        rateAct();
        swapAct();
        stopAct();
        lastTwenty();
        undoOne();
        byRule();
        runRefused();
        seeds();
        counts();
        imageMade();
        imageGoneBackTo();
        manyCalls();
        Checks.finish();
    }

    private static void worn(String when, TurnRing x, int... want) {
        for (int spoke = 0; spoke < 12; spoke++) Checks.due(when + ": worn " + spoke, x.worn(spoke), want[spoke]);
    }

    // ---- Terms II: what is seen, liked and wanted

    private static void facesAndSees() {
        Checks.sentence("A HOUSE in a SLOT FACES the direction SLOT + ANGLE, less 12 if that is above 11.");
        for (int angle = 0; angle < 12; angle++) {
            for (int slot = 0; slot < 12; slot++) {
                TurnRing x = Checks.made("ring " + angle + ";house " + slot + " 1");
                Checks.due("slot " + slot + " at angle " + angle, x.house(0, 2), slot + angle > 11 ? slot + angle - 12 : slot + angle);
            }
        }

        Checks.sentence("In an HOUR it SEES the SORTS of the SIGHTS in that direction between whose HOURS it is (both with it)");
        // it stands still and faces 11; SORT 0 is next to that on both sides
        TurnRing x = Checks.made("ring 5;house 6 1;rate 0 23 3;sight 1 11 4 5;sight 4 11 5 7;sight 0 10 0 23;sight 0 0 0 23;sight 2 11 0 0;sight 3 11 23 23");
        for (int h = 0; h < 26; h++) {
            int hour = h % 24;
            int seen = (hour == 4 || hour == 5 ? 2 : 0) + (hour >= 5 && hour <= 7 ? 16 : 0) + (hour == 0 ? 4 : 0) + (hour == 23 ? 8 : 0);
            Checks.due("sees in hour " + h, x.house(0, 3), seen);
            x.hour();
        }

        Checks.sentence("it LIKES then what it likes of each SORT it SEES, together");
        x = Checks.made("ring 0;house 0 1;sight 0 0 0 0;sight 0 0 0 23;sight 1 0 0 0;sight 4 0 0 0;sight 3 1 0 0;likes 0 0 9;loathes 0 1 5;likes 0 4 1;likes 0 3 7");
        Checks.due("each SORT once", x.house(0, 4), 9 - 5 + 1);
        Checks.due("none", Checks.made("ring 0;house 0 1;likes 0 0 9").house(0, 4), 0);
        Checks.due("the most", Checks.made("ring 0;house 0 1;sight 0 0 0 0;sight 1 0 0 0;sight 2 0 0 0;sight 3 0 0 0;sight 4 0 0 0;"
                + "likes 0 0 9;likes 0 1 9;likes 0 2 9;likes 0 3 9;likes 0 4 9").house(0, 4), 45);
    }

    private static void wants() {
        Checks.sentence("It WANTS IT TO STAY, if it LIKES what it SEES now more than what it would in this HOUR behind the turn of the HOUR as told.");
        for (int now = -2; now <= 2; now++) {
            for (int then = -2; then <= 2; then++) {
                String text = "ring 0;house 0 1;sight 0 0 0 0;sight 1 1 0 0" + liking(0, now) + liking(1, then);
                Checks.due("likes " + now + ", then " + then, Checks.made(text).house(0, 6), now > then ? 1 : 0);
            }
        }
        // what is liked is at 11 alone; turned by each rate from ANGLE 11 and ANGLE 0
        for (int told = 0; told <= 6; told++) {
            String text = ";house 0 1;sight 0 11 0 0;likes 0 0 1;rate 0 0 " + told;
            Checks.due("by " + (told - 3), Checks.made("ring 11" + text).house(0, 6), told == 3 ? 0 : 1);
            String loathed = ";house 0 1;sight 0 " + Math.floorMod(told - 3, 12) + " 0 0;loathes 0 0 1;rate 0 0 " + told;
            Checks.due("by " + (told - 3) + " from 0", Checks.made("ring 0" + loathed).house(0, 6), told == 3 ? 0 : 1);
        }
        Checks.due("in this hour, not the next", Checks.made("ring 0;house 0 1;sight 0 0 0 0;sight 0 1 1 1;likes 0 0 1").house(0, 6), 1);
        Checks.due("in this hour, not the next", Checks.made("ring 0;house 0 1;sight 0 0 0 0;sight 0 1 0 0;likes 0 0 1").house(0, 6), 0);
        TurnRing x = Checks.made("ring 0;house 0 1;sight 0 0 0 0;likes 0 0 1");
        x.stop();
        Checks.due("stopped, but as told", x.house(0, 6), 1);
        x.rate(0, 0);
        Checks.due("by the rate of now", x.house(0, 6), 0);
    }

    private static String liking(int sort, int much) {
        if (much == 0) return "";
        return (much > 0 ? ";likes 0 " : ";loathes 0 ") + sort + " " + Math.abs(much);
    }

    // ---- promises 6 to 9

    private static void ofHouses() {
        Checks.sentence("Of a HOUSE what 0: SLOT, 1: VOTES, 2: the direction it FACES, 3: SORTS it SEES, as bits, 4: what it LIKES now, 5: 1 if it FACES a gate, else 0, 6: 1 if it WANTS IT TO STAY, else 0, 100 and on: what it likes of that SORT less 100.");
        TurnRing x = Checks.made("ring 10;house 3 9;house 2 1;sight 0 1 0 0;sight 4 1 0 0;likes 0 0 4;loathes 0 4 3;likes 1 1 8;gate 0");
        int[][] want = {{3, 9, 1, 17, 1, 0, 1}, {2, 1, 0, 0, 0, 1, 0}};
        int[][] likes = {{4, 0, 0, 0, -3}, {0, 8, 0, 0, 0}};
        for (int h = 0; h < 2; h++) {
            for (int what = 0; what <= 6; what++) Checks.due("house " + h + " what " + what, x.house(h, what), want[h][what]);
            for (int sort = 0; sort < 5; sort++) Checks.due("house " + h + " likes " + sort, x.house(h, 100 + sort), likes[h][sort]);
        }

        Checks.sentence("-1000 without these.");
        int[] whats = {-1, 7, 8, 99, 105, 106, -100, LEAST, MOST};
        for (int what : whats) Stands.refused("house 0 what " + what, y -> y.house(0, what), -1000);
        int[] houses = {-1, 3, 4, 7, LEAST, MOST};
        for (int h : houses) {
            Stands.refused("house " + h, y -> y.house(h, 0), -1000);
            Stands.refused("house " + h + " likes", y -> y.house(h, 100), -1000);
        }
        Stands.refusedWithoutRing("house 0", y -> y.house(0, 0), -1000);
        Stands.unchanged("house 0 of none", Stands::houseless, y -> y.house(0, 0), -1000);
        Checks.due("the last", Stands.rich().house(2, 0), 0);
    }

    private static void ofDirections() {
        Checks.sentence("Of a direction what 0: the HOUSE that FACES it (NONE), 1: 1 if there is a gate, else 0, 2: SORTS of SIGHTS there in this HOUR, as bits.");
        TurnRing x = Checks.made("ring 11;house 0 1;house 11 1;house 1 1;sight 0 0 0 0;sight 4 0 0 1;sight 2 0 1 1;sight 3 11 0 0;gate 0;gate 11");
        for (int d = 0; d < 12; d++) {
            Checks.due("who faces " + d, x.direction(d, 0), d == 11 ? 0 : d == 10 ? 1 : d == 0 ? 2 : -1);
            Checks.due("gate at " + d, x.direction(d, 1), d == 0 || d == 11 ? 1 : 0);
            Checks.due("sorts at " + d, x.direction(d, 2), d == 0 ? 17 : d == 11 ? 8 : 0);
        }
        x.hour();
        Checks.due("sorts in the next hour", x.direction(0, 2), 20);

        Checks.sentence("-2 without these, or a RING.");
        int[] directions = {-1, 12, 13, LEAST, MOST};
        for (int d : directions) {
            for (int what = 0; what <= 2; what++) {
                int asked = what;
                Stands.refused("direction " + d + " what " + what, y -> y.direction(d, asked), -2);
            }
        }
        int[] whats = {-1, 3, 100, LEAST, MOST};
        for (int what : whats) Stands.refused("direction 0 what " + what, y -> y.direction(0, what), -2);
        for (int what = 0; what <= 2; what++) {
            int asked = what;
            Stands.refusedWithoutRing("direction 0 what " + what, y -> y.direction(0, asked), -2);
        }
        for (int d = 0; d < 12; d++) Checks.due("who faces " + d + " without houses", Stands.houseless().direction(d, 0), -1);
    }

    private static void ofRatesAndSpokes() {
        Checks.sentence("Of an HOUR of the day what 0: its rate, -3 to 3. -1000 without these, or a RING.");
        TurnRing x = Checks.made("ring 0;rate 0 0 0;rate 23 23 6;rate 22 22 3");
        for (int h = 0; h < 24; h++) Checks.due("rate of " + h, x.rateOf(h), h == 0 ? -3 : h == 23 ? 3 : h == 22 ? 0 : 1);
        int[] hours = {-1, 24, 25, LEAST, MOST};
        for (int h : hours) Stands.refused("rateOf " + h, y -> y.rateOf(h), -1000);
        Stands.refusedWithoutRing("rateOf 0", y -> y.rateOf(0), -1000);

        Checks.sentence("How often a spoke (0 to 11) is worn; NONE without it, or a RING.");
        x = Checks.made("ring 10;rate 0 0 5;rate 1 1 6;rate 2 2 0");
        x.hour();
        x.hour();
        x.hour();
        worn("two, three and three back", x, 1, 2, 2, 1, 0, 0, 0, 0, 0, 0, 1, 1);
        Checks.due("it came back to 0", x.count(4), 0);
        int[] spokes = {-1, 12, 13, LEAST, MOST};
        for (int k : spokes) Stands.refused("worn " + k, y -> y.worn(k), -1);
        Stands.refusedWithoutRing("worn 0", y -> y.worn(0), -1);
    }

    // ---- Terms II: an HOUR goes by; promise 10

    private static void anHour() {
        Checks.sentence("An HOUR goes by: the ring turns by the rate of that HOUR");
        TurnRing each = Checks.made("ring 0;rate 0 0 6;rate 1 1 3;rate 2 2 0;rate 3 3 5;rate 4 22 3;rate 23 23 2");
        int[] angles = {3, 3, 0, 2};
        for (int h = 0; h < 24; h++) Checks.due("behind HOUR " + h, each.hour(), h < 4 ? angles[h] : h < 23 ? 2 : 1);
        Checks.due("behind HOUR 0 of the next DAY", each.hour(), 4);

        Checks.sentence("as many steps as it says (less than 0: the other way), in each ANGLE is one more (one less; 0 behind 11), and the spoke at the ANGLE it had is worn one more");
        for (int angle = 0; angle < 12; angle++) {
            for (int rate = -3; rate <= 3; rate++) {
                TurnRing x = Checks.made("ring " + angle + ";rate 0 0 " + (rate + 3));
                Checks.due("from " + angle + " by " + rate, x.hour(), (angle + rate + 12) % 12);
                int[] want = new int[12];
                for (int i = 0; i < Math.abs(rate); i++) want[(angle + (rate < 0 ? -i : i) + 12) % 12]++;
                worn("from " + angle + " by " + rate, x, want);
            }
        }
        TurnRing x = Checks.made("ring 0;rate 0 23 6");
        for (int i = 0; i < 8; i++) x.hour();
        worn("twice round", x, 2, 2, 2, 2, 2, 2, 2, 2, 2, 2, 2, 2);

        Checks.sentence("if it was STOPPED, it does not turn");
        x = Checks.made("ring 11;rate 0 23 6");
        x.stop();
        Checks.due("stopped", x.hour(), 11);
        worn("stopped", x, 0, 0, 0, 0, 0, 0, 0, 0, 0, 0, 0, 0);
        Checks.due("HOUR goes on", x.count(5), 1);
        Checks.due("the next HOUR it turns", x.hour(), 2);

        Checks.sentence("HOUR is 1 more, behind 23 it is 0, and DAY is 1 more (999 at most)");
        x = Checks.made("ring 0");
        for (int i = 0; i < 49; i++) {
            Checks.due("HOUR", x.count(5), i % 24);
            Checks.due("DAY", x.count(6), i / 24);
            x.hour();
        }
        // what is asked goes on behind the last HOUR: there DAY stays 999
        x = late(23, "turn 1 if day > 999", "turn 1 if day = 999");
        Checks.due("behind the last hour day is not above 999", x.apart(0, 0, 0, 0, 60), 0);
        Checks.due("behind the last hour day is 999", x.apart(1, 0, 0, 0, 60), 5 - 60);
    }

    /** HOUR h of DAY 999; the first RULE must not turn it; HOUSE 0 sees SORT 0 where it stands. */
    private static TurnRing late(int h, String... rules) {
        TurnRing x = Checks.made("ring 0;house 0 1;sight 0 0 0 23;gate 0", rules);
        for (int i = 0; i < 249; i++) x.run(0, 96);
        x.run(0, 72 + h);
        return x;
    }

    private static void lastHour() {
        Checks.sentence("An HOUR: ANGLE; NONE, and nothing happens, without a RING, or in HOUR 23 of DAY 999.");
        Stands.refusedWithoutRing("hour", TurnRing::hour, -1);
        Stands.unchanged("hour in the last", () -> late(23, "turn 0"), TurnRing::hour, -1);
        Stands.unchanged("hour in the last, stopped", () -> {
            TurnRing y = late(23, "turn 0");
            y.stop();
            return y;
        }, TurnRing::hour, -1);
        TurnRing x = late(22, "turn 0");
        Checks.due("DAY", x.count(6), 999);
        Checks.due("HOUR", x.count(5), 22);
        Checks.due("the last but one", x.hour(), 1);
        Checks.due("HOUR", x.count(5), 23);
        Checks.due("the last", x.hour(), -1);
        Checks.due("undone", x.undo(), 0);
        Checks.due("HOUR", x.count(5), 22);
        Checks.due("the last but one again", x.hour(), 1);
        // HOUR 23 of a DAY before is no bound
        x = Checks.made("ring 0", "turn 0");
        for (int i = 0; i < 249; i++) x.run(0, 96);
        x.run(0, 71);
        Checks.due("DAY", x.count(6), 998);
        Checks.due("from DAY 998", x.hour(), 1);
        Checks.due("to DAY 999", x.count(6), 999);
        Checks.due("undone", x.undo(), 0);
        Checks.due("to DAY 998", x.count(6), 998);
        Checks.due("to HOUR 23", x.count(5), 23);
        Checks.due("other acts in the last hour", late(23, "turn 0").stop(), true);
        Checks.due("other acts in the last hour", late(23, "turn 0").rate(23, 3), 1);
    }

    // ---- promises 11 to 14

    private static void rateAct() {
        Checks.sentence("RATE of an HOUR (0 to 23), -3 to 3: which it was");
        for (int h = 0; h < 24; h++) {
            TurnRing one = Checks.made("ring 0");
            Checks.due("rate of " + h, one.rate(h, -3), 1);
            for (int other = 0; other < 24; other++) Checks.due("rateOf " + other, one.rateOf(other), other == h ? -3 : 1);
        }
        TurnRing x = Checks.made("ring 0");
        int before = 1;
        for (int rate = -3; rate <= 3; rate++) {
            Checks.due("which it was", x.rate(23, rate), before);
            before = rate;
        }
        Checks.due("the same again is an act too", x.rate(23, 3), 3);
        Checks.due("acts", x.count(11), 8);

        Checks.sentence("RATE (of an HOUR of the day, -3 to 3, from then on)");
        x = Checks.made("ring 0;rate 0 23 3");
        x.hour();
        x.rate(0, 2);
        for (int i = 1; i < 24; i++) Checks.due("not in hour " + i, x.hour(), 0);
        Checks.due("the next day", x.hour(), 2);
        for (int i = 1; i < 24; i++) x.hour();
        Checks.due("and the next", x.hour(), 4);

        Checks.sentence("-1000, and nothing happens, without these, or a RING");
        int[][] wrong = {{-1, 0}, {24, 0}, {0, -4}, {0, 4}, {23, 5}, {-1, -4}, {24, 4}, {LEAST, 0}, {MOST, 0}, {0, LEAST}, {0, MOST}};
        for (int[] w : wrong) Stands.refused("rate " + w[0] + " " + w[1], y -> y.rate(w[0], w[1]), -1000);
        Stands.refusedWithoutRing("rate 0 0", y -> y.rate(0, 0), -1000);
    }

    private static void swapAct() {
        Checks.sentence("SWAP: true");
        for (int one = 0; one < 7; one++) {
            for (int other = 0; other < 7; other++) {
                if (one == other) continue;
                TurnRing x = Checks.made("ring 0;house 9 1;house 8 2;house 7 3;house 6 4;house 5 5;house 4 6;house 3 7;sight 0 3 0 0;likes 6 0 2");
                Checks.due("swap", x.swap(one, other), true);
                for (int h = 0; h < 7; h++) {
                    Checks.due("slot of " + h, x.house(h, 0), 9 - (h == one ? other : h == other ? one : h));
                    Checks.due("votes of " + h, x.house(h, 1), h + 1);
                    Checks.due("likes of " + h, x.house(h, 100), h == 6 ? 2 : 0);
                }
                Checks.due("an act", x.count(11), 1);
            }
        }

        Checks.sentence("SWAP (two HOUSES their SLOTS)");
        TurnRing faced = Checks.made("ring 11;house 0 1;house 11 1;sight 0 11 0 23;sight 1 10 0 23;gate 10");
        faced.hour();
        Checks.due("swap", faced.swap(1, 0), true);
        Checks.due("HOUSE 0 faces what HOUSE 1 did", faced.house(0, 2), 11);
        Checks.due("HOUSE 1 faces what HOUSE 0 did", faced.house(1, 2), 0);
        Checks.due("ANGLE stays", faced.count(4), 0);
        Checks.due("HOUR stays", faced.count(5), 1);
        Checks.due("swapped again, the other way round", faced.swap(0, 1), true);
        Checks.due("SLOT of HOUSE 0 as it was", faced.house(0, 0), 0);
        Checks.due("SLOT of HOUSE 1 as it was", faced.house(1, 0), 11);
        Checks.due("each is an ACT", faced.count(11), 3);

        Checks.sentence("false, and nothing happens, without these (unlike)");
        int[][] wrong = {{0, 0}, {2, 2}, {0, 3}, {3, 0}, {-1, 0}, {0, -1}, {3, 3}, {-1, -1}, {6, 7}, {LEAST, 0}, {0, LEAST}, {MOST, 1}, {1, MOST}};
        for (int[] w : wrong) Stands.refused("swap " + w[0] + " " + w[1], y -> y.swap(w[0], w[1]) ? 1 : 0, 0);
        Stands.refusedWithoutRing("swap 0 1", y -> y.swap(0, 1) ? 1 : 0, 0);
        Stands.unchanged("swap 0 1 of none", Stands::houseless, y -> y.swap(0, 1) ? 1 : 0, 0);
        Stands.unchanged("swap 0 1 of one", () -> Checks.made("ring 0;house 3 1"), y -> y.swap(0, 1) ? 1 : 0, 0);
    }

    private static void stopAct() {
        Checks.sentence("STOP (it is STOPPED: the next HOUR it does not turn, and is STOPPED no more then; if it was not STOPPED already)");
        TurnRing x = Checks.made("ring 5");
        for (int i = 1; i <= 3; i++) {
            int angle = x.count(4);
            Checks.due("stop", x.stop(), true);
            Checks.due("stopped", x.count(8), 1);
            Checks.due("how often", x.count(9), i);
            Checks.due("an act", x.count(11), 3 * i - 2);
            Checks.due("it does not turn", x.hour(), angle);
            Checks.due("stopped no more", x.count(8), 0);
            Checks.due("it turns", x.hour(), angle + 1);
        }

        Checks.sentence("STOP: true");
        Checks.due("stop without HOUSES", Stands.houseless().stop(), true);
        x = Checks.made(Stands.RING);
        Checks.due("stop", x.stop(), true);
        Checks.due("how often", x.count(9), 1);
        Checks.due("ANGLE stays", x.count(4), 10);
        Checks.due("HOUR stays", x.count(5), 0);
        Checks.due("undone", x.undo(), 0);
        Checks.due("stop again", x.stop(), true);
        Checks.due("how often", x.count(9), 1);

        Checks.sentence("false, and nothing happens, without a RING, or if it is STOPPED");
        Stands.refused("stop", y -> y.stop() ? 1 : 0, 0);
        Stands.refusedWithoutRing("stop", y -> y.stop() ? 1 : 0, 0);
        Stands.unchanged("stop twice", () -> {
            TurnRing y = Stands.houseless();
            y.stop();
            return y;
        }, y -> y.stop() ? 1 : 0, 0);
    }

    /** An ACT of each kind in turn, 0 to 4, each seen in what is undone. */
    private static void act(TurnRing x, int i) {
        switch (i % 5) {
            case 0: x.hour(); break;
            case 1: x.swap(i % 3, (i + 1) % 3); break;
            case 2: x.rate(i % 24, i % 7 - 3); break;
            case 3: x.stop(); break;
            default: x.hour(); break;
        }
    }

    private static void sameStanding(String when, TurnRing x, TurnRing y) {
        int[] whats = {4, 5, 6, 7, 8, 9};
        for (int what : whats) Checks.due(when + ": count " + what, x.count(what), y.count(what));
        for (int h = 0; h < 3; h++) Checks.due(when + ": slot " + h, x.house(h, 0), y.house(h, 0));
        for (int h = 0; h < 24; h++) Checks.due(when + ": rate " + h, x.rateOf(h), y.rateOf(h));
        for (int k = 0; k < 12; k++) Checks.due(when + ": worn " + k, x.worn(k), y.worn(k));
    }

    private static void lastTwenty() {
        Checks.sentence("ACTS: an HOUR;");
        TurnRing each = Checks.made(Stands.RING, "turn 1");
        Checks.due("an HOUR", each.hour(), 11);
        Checks.due("is an ACT", each.count(11), 1);
        each.seed(5);
        each.diary(0, 1, 1, true);
        each.diary(-1, 0, 0, true);
        each.image(0);
        Checks.tape(each, "turn 2");
        each.rule();
        Checks.due("what is told, drawn and kept is none", each.count(11), 1);
        each.run(0, 1);
        Checks.due("an HOUR by a RULE is none", each.count(11), 0);

        Checks.sentence("The last 20 can be UNDONE, the last first.");
        int[] many = {1, 19, 20, 21, 22, 23, 24, 25, 39, 40, 41, 45};
        for (int n : many) {
            TurnRing x = Checks.made(Stands.RING);
            for (int i = 0; i < n; i++) act(x, i);
            int can = Math.min(n, 20);
            Checks.due(n + " acts: can be undone", x.count(11), can);
            for (int left = can - 1; left >= 0; left--) Checks.due(n + " acts: undo", x.undo(), left);
            Checks.due(n + " acts: no more", x.undo(), -1);
            TurnRing y = Checks.made(Stands.RING);
            for (int i = 0; i < n - can; i++) act(y, i);
            sameStanding(n + " acts undone", x, y);
        }
        for (int undone = 1; undone <= 20; undone++) {
            TurnRing x = Checks.made(Stands.RING);
            TurnRing y = Checks.made(Stands.RING);
            for (int i = 0; i < 20; i++) act(x, i);
            for (int i = 0; i < 20 - undone; i++) act(y, i);
            for (int i = 0; i < undone; i++) x.undo();
            sameStanding(undone + " of 20 undone", x, y);
        }
    }

    private static void undoOne() {
        Checks.sentence("The last ACT is UNDONE: how many more can be");
        TurnRing x = Checks.made(Stands.RING);
        x.rate(0, 3);
        x.hour();
        Checks.due("the hour: spokes 10, 11 and 0 worn no more", x.undo(), 1);
        worn("undone", x, 0, 0, 0, 0, 0, 0, 0, 0, 0, 0, 0, 0);
        x.rate(0, -3);
        x.hour();
        Checks.due("the hour back", x.undo(), 2);
        worn("undone", x, 0, 0, 0, 0, 0, 0, 0, 0, 0, 0, 0, 0);
        Checks.due("angle", x.count(4), 10);
        x.stop();
        x.hour();
        Checks.due("the hour when stopped", x.undo(), 3);
        Checks.due("stopped again", x.count(8), 1);
        Checks.due("angle", x.count(4), 10);
        Checks.due("the stop", x.undo(), 2);
        Checks.due("stopped no more", x.count(8), 0);
        Checks.due("how often", x.count(9), 0);
        Checks.due("the rate", x.undo(), 1);
        Checks.due("as it was", x.rateOf(0), 3);
        Checks.due("the rate", x.undo(), 0);
        Checks.due("as told", x.rateOf(0), 1);
        Checks.due("none", x.undo(), -1);
        // behind HOUR 23 back into the DAY before
        x = Checks.made("ring 0");
        for (int i = 0; i < 24; i++) x.hour();
        Checks.due("undo", x.undo(), 19);
        Checks.due("HOUR", x.count(5), 23);
        Checks.due("DAY", x.count(6), 0);
        Checks.due("angle", x.count(4), 11);
        // DIARY and x are no ACTS
        x.seed(9);
        x.diary(-1, 0, 0, true);
        Checks.due("undo", x.undo(), 18);
        Checks.due("x stays", x.count(12), 9);

        Checks.sentence("NONE, and nothing happens: none can.");
        Stands.refusedWithoutRing("undo", TurnRing::undo, -1);
        Stands.unchanged("undo of a new RING", () -> Checks.made(Stands.RING), TurnRing::undo, -1);
        Stands.unchanged("undo when all is undone", () -> {
            TurnRing y = Stands.rich();
            for (int i = 0; i < 5; i++) y.undo();
            return y;
        }, TurnRing::undo, -1);
        Stands.unchanged("undo behind a run", () -> {
            TurnRing y = Stands.rich();
            y.run(0, 1);
            return y;
        }, TurnRing::undo, -1);
    }

    // ---- BY A RULE; promise 15

    private static int turnsBy(String rule) {
        TurnRing x = Checks.made("ring 6", rule);
        return x.run(0, 1) - 6;
    }

    private static void byRule() {
        Checks.sentence("BY A RULE n HOURS: in each the rate is the SUM of the first CLAUSE without a TEST, or whose TEST holds (0 without), held to -3 to 3 (if it is not STOPPED)");
        Checks.due("the first without a test", turnsBy("turn 1;turn 2"), 1);
        Checks.due("the first that holds", turnsBy("turn 1 if 1 = 2;turn 2 if 1 = 1;turn 3"), 2);
        Checks.due("the last", turnsBy("turn 1 if 1 = 2;turn 2 if 1 = 3;turn 3"), 3);
        Checks.due("none", turnsBy("turn 1 if 1 = 2;turn 2 if 1 = 3"), 0);
        for (int sum = -5; sum <= 5; sum++) Checks.due("turn " + sum, turnsBy("turn 5 - " + (5 - sum)), Math.max(-3, Math.min(3, sum)));
        Checks.due("far above", turnsBy("turn 99999 * 99999"), 3);
        Checks.due("far below", turnsBy("turn 0 - 99999 * 99999"), -3);
        Checks.due("4294967296 is above 3", turnsBy("turn 65536 * 65536"), 3);
        Checks.due("-4294967296 is below -3", turnsBy("turn 0 - 65536 * 65536"), -3);
        TurnRing x = Checks.made("ring 0;rate 0 23 0", "turn 3", "turn hour");
        Checks.due("not by the rates told", x.run(0, 1), 3);
        worn("three on", x, 1, 1, 1, 0, 0, 0, 0, 0, 0, 0, 0, 0);
        x.stop();
        Checks.due("stopped in the first alone", x.run(0, 3), 9);
        Checks.due("stopped no more", x.count(8), 0);
        Checks.due("how often", x.count(9), 1);
        Checks.due("HOUR", x.count(5), 4);
        x = Checks.made("ring 0", "turn hour");
        Checks.due("worked out anew in each HOUR: 0, 1, 2, 3, 3", x.run(0, 5), 9);

        Checks.sentence("(These can't be UNDONE: nothing that was done ahead of them can, either.)");
        x = Stands.rich();
        x.run(0, 1);
        Checks.due("none", x.count(11), 0);
        Checks.due("none", x.undo(), -1);
        x.hour();
        Checks.due("what is done behind them can", x.undo(), 0);
        Checks.due("none more", x.undo(), -1);
    }

    private static void runRefused() {
        Checks.sentence("BY A RULE n HOURS (1 to 96): ANGLE");
        TurnRing x = Checks.made("ring 0;house 0 1", "turn 1", "turn 2", "turn 3", "turn 0", "turn 0 - 1", "turn 0 - 2");
        int angle = 0;
        for (int rule = 0; rule < 6; rule++) {
            int turns = rule < 3 ? rule + 1 : 3 - rule;
            angle = Math.floorMod(angle + turns, 12);
            Checks.due("an hour by " + rule, x.run(rule, 1), angle);
        }
        Checks.due("96 hours", x.run(0, 96), angle);
        Checks.due("DAY", x.count(6), 4);
        Checks.due("HOUR", x.count(5), 6);
        Checks.due("95 hours", x.run(0, 95), Math.floorMod(angle - 1, 12));

        Checks.sentence("NONE, and nothing happens, without these (no RING), or if DAY would be above 999");
        int[][] wrong = {{-1, 1}, {2, 1}, {5, 1}, {6, 1}, {0, 0}, {0, -1}, {0, 97}, {1, 96 + 24}, {LEAST, 1}, {MOST, 1}, {0, LEAST}, {0, MOST}, {-1, 0}};
        for (int[] w : wrong) Stands.refused("run " + w[0] + " " + w[1], y -> y.run(w[0], w[1]), -1);
        Stands.refusedWithoutRing("run 0 1", y -> y.run(0, 1), -1);
        Stands.unchanged("run without a RULE", () -> Checks.made(Stands.RING), y -> y.run(0, 1), -1);
        int[][] late = {{23, 1}, {22, 2}, {0, 24}, {0, 96}, {23, 96}};
        for (int[] l : late) Stands.unchanged("run from HOUR " + l[0] + " of DAY 999: " + l[1], () -> late(l[0], "turn 0"), y -> y.run(0, l[1]), -1);
        int[][] justSo = {{22, 1}, {0, 23}};
        for (int[] l : justSo) {
            x = late(l[0], "turn 0");
            Checks.due("to the last hour", x.run(0, l[1]), 0);
            Checks.due("HOUR", x.count(5), 23);
            Checks.due("DAY", x.count(6), 999);
        }
        x = Checks.made("ring 0", "turn 0");
        for (int i = 0; i < 249; i++) x.run(0, 96);
        Checks.due("96 from HOUR 0 of DAY 996", x.run(0, 96), -1);
        Checks.due("DAY", x.count(6), 996);
        Checks.due("95 from HOUR 0 of DAY 996", x.run(0, 95), 0);
        Checks.due("HOUR", x.count(5), 23);
        Checks.due("DAY", x.count(6), 999);
    }

    // ---- promises 29 and 31 to 33

    private static void seeds() {
        Checks.sentence("x becomes a number: what it was; NONE, and nothing happens, below 0.");
        TurnRing x = new TurnRing();
        int[] numbers = {0, 1, 65535, 65536, MOST, 0};
        int before = 0;
        for (int n : numbers) {
            Checks.due("seed " + n, x.seed(n), before);
            Checks.due("x", x.count(12), n);
            before = n;
        }
        int[] wrong = {-1, -2, LEAST};
        for (int n : wrong) {
            Stands.refused("seed " + n, y -> y.seed(n), -1);
            Stands.refusedWithoutRing("seed " + n, y -> y.seed(n), -1);
        }
    }

    private static void counts() {
        Checks.sentence("What 0: HOUSES, 1: SIGHTS, 2: gates, as bits, 3: RULES, 4: ANGLE, 5: HOUR, 6: DAY, 7: what all LIKE now, 8: 1 if it is STOPPED, else 0, 9: how often STOP was done, 10: DIARY, 11: ACTS that can be UNDONE, 12: x, 13: bytes of the TAPE, 14: VOTES of all.");
        // HOUSES in SLOTS 3, 6 and 0 face 6, 9 and 3 in HOUR 9 at ANGLE 3
        TurnRing x = Stands.rich();
        int[] want = {3, 4, (1 << 10) + (1 << 4), 2, 3, 9, 0, 0, 1, 1, 2, 5, 77, 16, 6};
        for (int what = 0; what <= 14; what++) Checks.due("count " + what, x.count(what), want[what]);
        x = Checks.made("ring 4;house 7 9;house 8 8;house 9 7;sight 0 11 0 23;sight 1 0 0 23;sight 2 1 0 23;likes 0 0 9;loathes 1 1 4;likes 2 2 1;gate 0;gate 11");
        Checks.due("what all like now", x.count(7), 9 - 4 + 1);
        Checks.due("votes of all", x.count(14), 24);
        Checks.due("gates", x.count(2), 1 + (1 << 11));
        Checks.due("not stopped", x.count(8), 0);
        x = Checks.made("ring 0;house 0 1;house 1 2;house 2 3;house 3 4;house 4 5;house 5 6;house 6 7;sight 0 6 0 0;sight 0 0 0 0;likes 6 0 9;loathes 0 0 4");
        Checks.due("what all seven like now", x.count(7), 5);
        Checks.due("votes of all seven", x.count(14), 28);

        Checks.sentence("-100000 for others.");
        int[] others = {-1, 15, 16, 100, LEAST, MOST};
        for (int what : others) {
            Stands.refused("count " + what, y -> y.count(what), -100000);
            Stands.refusedWithoutRing("count " + what, y -> y.count(what), -100000);
        }
        Checks.due("7 without a RING", new TurnRing().count(7), 0);
        Checks.due("14 without HOUSES", Stands.houseless().count(14), 0);
    }

    private static void imageMade() {
        Checks.sentence("An IMAGE is made: DAY; NONE without it.");
        for (int k = 0; k < 4; k++) {
            TurnRing x = Checks.made(Stands.RING, "turn 1");
            x.run(0, 50);
            Checks.due("image " + k, x.image(k), 2);
            for (int other = 0; other < 4; other++) {
                if (other != k) Checks.due("image " + other + " was not made", x.back(other), -1);
            }
            x.hour();
            Checks.due("back to " + k, x.back(k), 2);
            Checks.due("HOUR", x.count(5), 2);
        }
        int[] wrong = {-1, 4, 5, LEAST, MOST};
        for (int k : wrong) {
            Stands.refused("image " + k, y -> y.image(k), -1);
            Stands.refusedWithoutRing("image " + k, y -> y.image(k), -1);
        }
        TurnRing x = Stands.rich();
        x.image(1);
        Checks.due("ACTS stay", x.count(11), 5);
        Checks.due("the TAPE stays", x.count(13), 16);
        Checks.due("undo", x.undo(), 4);
        Checks.due("not stopped", x.count(8), 0);
        x.back(1);
        Checks.due("stopped in the image, made anew", x.count(8), 1);
        Checks.due("an image without a RING", new TurnRing().image(0), 0);
    }

    private static void imageGoneBackTo() {
        Checks.sentence("IMAGES 0 to 3: all but the TAPE and the RULES, as it is; gone back to, it is as it was (these stay; nothing can be UNDONE then).");
        TurnRing x = Stands.rich();
        x.image(0);
        TurnRing y = Stands.rich();
        y.image(0);
        for (int i = 0; i < 5; i++) y.undo();
        // y is as x but for the ACTS: bring it there again, then let all change in x
        y.back(0);
        Checks.ring(x, "ring 1;house 9 9;house 8 9;house 7 9;house 5 4;sight 4 4 4 4;likes 0 0 9;loathes 2 3 3;gate 0;rate 0 23 0");
        x.seed(5);
        x.hour();
        x.diary(1, 1, 1, true);
        x.stop();
        Checks.tape(x, "ring 4;house 1 1");
        Checks.due("back", x.back(0), 0);
        Probe.same("back behind another RING", x, y);

        // DIARY line by line: SLOT 3 saw SORT 0 behind 1 HOUR, SLOT 0 did not behind 2
        x = Checks.made("ring 0;house 0 1;house 3 1;sight 0 5 0 23");
        x.diary(1, 1, 0, true);
        x.diary(0, 2, 0, false);
        x.image(0);
        int[] turned = {x.turned(0), x.turned(1), x.turned(2)};
        Checks.due("ANGLE and rate are 2 together, but the rate was not 3", turned[0], 6);
        Checks.due("the first ANGLE", turned[1], 0);
        Checks.due("its rate", turned[2], 2);
        x.diary(-1, 0, 0, true);
        x.diary(0, 9, 4, false);
        x.diary(1, 9, 4, true);
        Checks.due("none", x.turned(0), 0);
        x.back(0);
        for (int what = 0; what <= 2; what++) Checks.due("turned " + what, x.turned(what), turned[what]);

        x = Stands.rich();
        x.image(2);
        Checks.rule(x, "turn 3");
        Checks.tape(x, "ring 2;gate 2");
        x.back(2);
        Checks.due("RULES stay", x.count(3), 3);
        Checks.due("the TAPE stays", x.count(13), 13);
        Checks.due("nothing can be undone", x.undo(), -1);
        Checks.due("stopped", x.count(8), 1);
        Checks.due("x", x.count(12), 77);
        Checks.due("DIARY", x.count(10), 2);
        Checks.due("the TAPE", x.ring(), 0);
        Checks.due("its gate", x.count(2), 4);
        x.back(2);
        x.hour();
        x.rate(3, 3);
        x.swap(0, 1);
        x.diary(-1, 0, 0, true);
        Checks.due("as often as one likes", x.back(2), 0);
        Checks.due("HOUR", x.count(5), 9);
        Checks.due("rate", x.rateOf(3), 1);
        Checks.due("slot", x.house(0, 0), 3);
        Checks.due("DIARY", x.count(10), 2);

        Checks.sentence("All is as in an IMAGE: DAY; NONE, and nothing happens, if it was never made, or without it.");
        int[] wrong = {0, 2, -1, 4, 5, LEAST, MOST};
        for (int k : wrong) Stands.refused("back " + k, z -> z.back(k), -1);
        for (int k = -1; k <= 4; k++) {
            int image = k;
            Stands.refusedWithoutRing("back " + k, z -> z.back(image), -1);
        }
        x = new TurnRing();
        x.seed(3);
        x.image(3);
        Checks.ring(x, "ring 3;house 3 3");
        x.run(0, 1);
        x.seed(4);
        Checks.due("back to no RING", x.back(3), 0);
        Checks.due("no RING", x.rateOf(0), -1000);
        Checks.due("no HOUSE", x.count(0), 0);
        Checks.due("x", x.count(12), 3);
    }

    private static void manyCalls() {
        Checks.sentence("An object is used for at most 512 calls after it has been made");
        TurnRing x = new TurnRing();
        // "ring 0;rate 0 23 5", and its two last bytes cut off
        x.feed(0x72696e67, 0x20303b72, 0x61746520, 0x30203233, 0x20352020);
        x.end(18);
        Checks.due("ring", x.ring(), 0);
        for (int call = 4; call < 512; call++) Checks.due("call " + call, x.hour(), 2 * (call - 3) % 12);
        Checks.due("call 512", x.undo(), 19);
    }
}
