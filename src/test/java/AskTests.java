/** Promises 16 to 28 and 30: what is asked, by which nothing changes. */
public final class AskTests {
    private static final int LEAST = Integer.MIN_VALUE;
    private static final int MOST = Integer.MAX_VALUE;

    public static void main(String[] args) {
        ahead();
        wholeDays();
        plans();
        errands();
        votes();
        trades();
        spares();
        apartByRules();
        diaries();
        looks();
        draws();
        nothingChanges();
        fewerHouses();
        Checks.finish();
    }

    private static void ahead() {
        // two steps in HOUR 0, three back in HOUR 1, none in the others
        TurnRing x = Checks.made("ring 11;house 3 1;house 0 1;sight 4 2 0 23;sight 1 4 1 1;sight 0 1 2 9;rate 0 23 3;rate 0 0 5;rate 1 1 0");
        int[] faced = {2, 4, 1, 1};
        int[] seen = {16, 2, 1, 1};
        for (int n = 0; n < 4; n++) {
            Checks.due("faces " + n + " hours on", x.faces(0, n), faced[n]);
            Checks.due("sees " + n + " hours on", x.sees(0, n), seen[n]);
        }
        Checks.due("faces 24 hours on", x.faces(0, 24), 1);
        Checks.due("faces 25 hours on", x.faces(0, 25), 3);
        // eight days make eight steps back, and two more on in HOUR 0 of the next
        Checks.due("faces 200 hours on", x.faces(0, 200), Math.floorMod(2 - 8 - 1, 12));
        Checks.due("sees 200 hours on", x.sees(0, 192), 0);
        Checks.due("sees 200 hours on", x.sees(0, 200), 0);
        Checks.due("the other house", x.faces(1, 0), 11);
        x.stop();
        Checks.due("stopped: it does not turn in the first", x.faces(0, 1), 2);
        Checks.due("but in the next", x.faces(0, 2), 11);
        Checks.due("sees when stopped", x.sees(0, 1), 16);
        int[][] wrong = {{-1, 0}, {2, 0}, {0, -1}, {0, 201}, {LEAST, MOST}, {MOST, LEAST}};
        for (int[] w : wrong) {
            Checks.due("faces " + w[0] + " " + w[1], x.faces(w[0], w[1]), -1);
            Checks.due("sees " + w[0] + " " + w[1], x.sees(w[0], w[1]), -1);
        }
    }

    private static void wholeDays() {
        // one step an HOUR: from ANGLE 0 the HOUSE in SLOT 0 faces 3 in HOURS 3 and 15
        String ring = "ring 0;house 0 1;house 1 1;sight 0 3 0 23;sight 1 3 10 20;likes 0 0 5;loathes 0 1 2;loathes 1 0 1";
        TurnRing x = Checks.made(ring);
        Checks.due("day", x.day(0), 5 + 3);
        Checks.due("day of the other: HOURS 2 and 14", x.day(1), -2);
        x.stop();
        // all an HOUR later: 4 and 16; HOURS 3 and 15 for the other
        Checks.due("day when stopped", x.day(0), 8);
        x = Checks.made("ring 3;house 0 1;sight 0 3 0 0;likes 0 0 5");
        Checks.due("this hour first", x.day(0), 5);
        x.hour();
        // HOUR 0 comes again behind 23 HOURS more: then the ANGLE is 3 again
        Checks.due("and 23 more", x.day(0), 5);
        x.stop();
        Checks.due("then it is one behind", x.day(0), 0);
        Checks.due("day -1", x.day(-1), -100000);
        Checks.due("day 1", x.day(1), -100000);
        Checks.due("day least", x.day(LEAST), -100000);
    }

    private static void plan(TurnRing x, int n, boolean fair, int much, int... rates) {
        String name = "plan " + n + (fair ? " fair" : "") + " what ";
        Checks.due(name + 0, x.plan(n, fair, 0), much);
        for (int i = 1; i <= 5; i++) Checks.due(name + i, x.plan(n, fair, i), i <= n ? rates[i - 1] : -2);
    }

    private static void plans() {
        Checks.due("the first row, asked first of all", Checks.made("ring 0;house 0 1").plan(2, false, 2), -1);
        // from ANGLE 7: HOUSE 1 likes 1 two steps on, HOUSE 0 likes 1 one step on, HOUSE 2 loathes it there
        TurnRing far = Checks.made("ring 7;house 0 1;house 4 1;house 2 1;sight 0 8 0 23;sight 1 1 0 23;sight 2 10 0 23;likes 0 0 3;likes 1 1 9;loathes 2 2 4");
        plan(far, 1, false, 0, -1);
        plan(far, 2, false, 3 - 4 + 9, 1, 1);
        plan(far, 3, false, 3 - 4 + 18, 1, 1, 0);
        plan(far, 2, true, 0, -1, -1);
        // what is liked is two steps on, and only from HOUR 2 on
        TurnRing x = Checks.made("ring 0;house 0 1;sight 0 2 2 23;likes 0 0 3;rate 0 23 6");
        plan(x, 1, false, 0, -1);
        plan(x, 2, false, 3, 1, 1);
        plan(x, 3, false, 6, 1, 1, 0);
        plan(x, 5, false, 12, 1, 1, 0, 0, 0);
        x.stop();
        plan(x, 3, false, 6, 1, 1, 0);
        // in the HOUR that is then: HOUR 1 only
        x = Checks.made("ring 0;house 0 1;sight 0 0 1 1;likes 0 0 3");
        plan(x, 1, false, 3, 0);
        plan(x, 2, false, 3, 0, -1);
        x = Checks.made("ring 0;house 0 1;sight 0 0 0 0;likes 0 0 3");
        plan(x, 1, false, 0, -1);
        // HOUSE 0 likes 9 at 1, HOUSE 1 likes 2 at 0: by turns both have some
        x = Checks.made("ring 0;house 0 1;house 6 1;sight 0 1 0 23;sight 1 6 0 23;likes 0 0 9;likes 1 1 2");
        plan(x, 2, false, 18, 1, 0);
        plan(x, 2, true, 2, 0, 1);
        plan(x, 3, true, 4, 0, 0, 1);
        x = Checks.made("ring 0;house 0 1;house 6 1;sight 0 0 0 23;loathes 0 0 1");
        plan(x, 1, true, 0, -1);
        x = Checks.made("ring 0;house 0 1;sight 0 0 0 23;sight 0 11 0 23;sight 0 1 0 23;loathes 0 0 1");
        plan(x, 1, true, -1, -1);
        plan(x, 2, false, -1, -1, -1);
        int[][] wrong = {{0, 0}, {6, 0}, {1, -1}, {1, 6}, {LEAST, MOST}, {MOST, LEAST}};
        for (int[] w : wrong) Checks.due("plan " + w[0] + " " + w[1], x.plan(w[0], false, w[1]), -100000);
        x = Checks.made("ring 0;sight 0 0 0 0");
        Checks.due("plan without houses", x.plan(1, false, 0), -100000);
    }

    private static void errand(TurnRing x, int house, int gate, int w, int left, int back) {
        String name = "errand " + house + " " + gate + " " + w + " ";
        Checks.due(name + 0, x.errand(house, gate, w, 0), left);
        Checks.due(name + 1, x.errand(house, gate, w, 1), back);
    }

    private static void errands() {
        TurnRing x = Checks.made("ring 0;house 0 1;house 5 1;gate 2;gate 6;gate 5");
        // at 2 in HOUR 2; behind 0 more one is back at once
        errand(x, 0, 2, 0, 2, 2);
        // behind 1 more it is HOUR 3: 5 is three away (6, it is there in 17), 6 is four away (7, there in 18), 2 is there in 14
        errand(x, 0, 2, 1, 2, 14);
        errand(x, 0, 5, 0, 5, 5);
        // behind 1 more it is HOUR 6: 6 is one away (7, there in 18), 2 is three away (9, there in 14), 5 is there in 17
        errand(x, 0, 5, 1, 5, 14);
        errand(x, 1, 5, 0, 0, 0);
        errand(x, 1, 5, 24, 0, 24);
        x.stop();
        errand(x, 0, 2, 0, 3, 3);
        Checks.due("a gate that is none", x.errand(0, 3, 0, 0), -1);
        int[][] wrong = {{-1, 2, 0, 0}, {2, 2, 0, 0}, {0, -1, 0, 0}, {0, 12, 0, 0}, {0, 2, -1, 0}, {0, 2, 25, 0}, {0, 2, 0, -1}, {0, 2, 0, 2},
            {LEAST, LEAST, LEAST, LEAST}, {0, MOST, 0, 0}, {0, LEAST, 0, 0}, {0, 32, 0, 0}};
        for (int[] w : wrong) Checks.due("errand " + w[0] + " " + w[1] + " " + w[2] + " " + w[3], x.errand(w[0], w[1], w[2], w[3]), -1);

        // one step in HOUR 23 of each DAY: it faces 2 from HOUR 48 on to 71
        x = Checks.made("ring 0;house 0 1;gate 2;gate 3;gate 11;rate 0 22 3");
        errand(x, 0, 2, 0, 48, 48);
        errand(x, 0, 2, 23, 48, 71);
        // then 3, which is one away: 48 + 24 + 1
        errand(x, 0, 2, 24, 48, 73);
        // 3 it faces from HOUR 72 on: that is too late
        errand(x, 0, 3, 0, -2, -2);
        // 48 at most: it faces 1 from HOUR 48 on, or 49
        x = Checks.made("ring 11;house 0 1;gate 1;rate 0 23 3;rate 23 23 4");
        errand(x, 0, 1, 0, 48, 48);
        x = Checks.made("ring 10;house 0 1;gate 1;rate 0 23 3;rate 0 0 4");
        errand(x, 0, 1, 0, -2, -2);
        // the shorter way round from 11 to 2 is 3
        x = Checks.made("ring 11;house 0 1;gate 11;gate 2;rate 0 23 3;rate 0 0 6");
        errand(x, 0, 11, 1, 0, 4);
        // it is left, but never seen again: HOUR 24 is one too late for it
        x = Checks.made("ring 0;house 0 1;gate 0;rate 0 22 3");
        errand(x, 0, 0, 23, 0, 23);
        errand(x, 0, 0, 24, -2, -2);
        // 96 at most: it faces 0, 3, 6, 9 for a DAY each, and 0 again from HOUR 96 on
        x = Checks.made("ring 0;house 0 1;gate 0;rate 0 22 3;rate 23 23 6");
        errand(x, 0, 0, 24, 0, 96);
        // it faces 0 from HOUR 1 to 24, and again from HOUR 97 on
        x = Checks.made("ring 9;house 0 1;gate 0;rate 1 23 3;rate 0 0 6");
        errand(x, 0, 0, 23, 1, 24);
        errand(x, 0, 0, 24, -2, -2);
    }

    private static void votes() {
        // HOUSE 0 and 2 like it as it is, 1 does not
        String told = ";sight 0 0 0 23;sight 0 4 0 23;sight 0 6 0 23;likes 0 0 1;loathes 1 0 1;likes 2 0 1";
        TurnRing x = Checks.made("ring 0;house 0 2;house 4 5;house 6 3" + told);
        Checks.due("who", x.stay(0), 5);
        Checks.due("5 of 10 are not more than half", x.stay(1), 0);
        x = Checks.made("ring 0;house 0 3;house 4 5;house 6 3" + told);
        Checks.due("6 of 11 are", x.stay(1), 1);
        Checks.due("stay -1", x.stay(-1), -1);
        Checks.due("stay 2", x.stay(2), -1);
        x.rate(0, 0);
        Checks.due("nobody", x.stay(0), 0);
        Checks.due("nobody", x.stay(1), 0);
        x = Checks.made("ring 0");
        Checks.due("without houses", x.stay(0), 0);
        Checks.due("without houses", x.stay(1), 0);

        x = Checks.made("ring 0;house 0 2;house 1 1;house 2 1");
        // of 4: the sets {1}, {2}, {1, 2} turn with HOUSE 0; {0} alone with HOUSE 1
        Checks.due("swings 0", x.swings(0), 3);
        Checks.due("swings 1", x.swings(1), 1);
        Checks.due("swings 2", x.swings(2), 1);
        Checks.due("swings -1", x.swings(-1), -1);
        Checks.due("swings 3", x.swings(3), -1);
        x = Checks.made("ring 0;house 0 9;house 1 4;house 2 4");
        Checks.due("alone", x.swings(0), 4);
        Checks.due("no vote that matters", x.swings(1), 0);
        x = Checks.made("ring 0;house 0 1");
        Checks.due("one house", x.swings(0), 1);
        x = Checks.made("ring 0;house 0 1;house 1 1;house 2 1;house 3 1;house 4 1;house 5 1;house 6 1");
        Checks.due("three of six others", x.swings(6), 20);
    }

    private static void trade(TurnRing x, int rows, int together, int... slots) {
        Checks.due("trade: rows", x.trade(0), rows);
        Checks.due("trade: together", x.trade(1), together);
        for (int h = 0; h < 7; h++) Checks.due("trade: slot " + h, x.trade(2 + h), h < slots.length ? slots[h] : -2);
    }

    private static void trades() {
        // it stands still: HOUSE 0 likes 5 and stands at 3, HOUSE 1 likes 3 and stands at 5
        String still = "ring 0;rate 0 23 3;house 3 1;house 5 1;house 9 1;sight 0 5 0 23;sight 1 3 0 23";
        TurnRing x = Checks.made(still + ";likes 0 0 1;likes 1 1 2");
        // as it is; 0 to 5, 1 and 2 to the others: 5 3 9, 5 9 3; 3 9 5; 9 3 5, 9 5 3: all are as good or better
        trade(x, 6, 24 + 48, 5, 3, 9);
        x.swap(0, 2);
        trade(x, 6, 24 + 48, 5, 3, 9);
        // HOUSE 2 has what HOUSE 0 likes, and likes it more
        x = Checks.made(still + ";likes 0 1 1;likes 1 0 1;likes 2 0 2");
        trade(x, 1, 48, 3, 5, 9);
        x = Checks.made(still);
        trade(x, 6, 0, 3, 5, 9);
        x.swap(0, 2);
        Checks.due("the first row is by slots", x.trade(2), 3);
        x = Checks.made("ring 0");
        trade(x, 1, 0);
        Checks.due("trade -1", x.trade(-1), -100000);
        Checks.due("trade 9", x.trade(9), -100000);
        Checks.due("trade least", x.trade(LEAST), -100000);
        x = Checks.made("ring 0;house 6 1;house 5 1;house 4 1;house 3 1;house 2 1;house 1 1;house 0 1");
        trade(x, 5040, 0, 0, 1, 2, 3, 4, 5, 6);
        // HOUSE 0 may have 1 or 2, but HOUSE 1 may have nothing but 1
        x = Checks.made("ring 0;rate 0 23 3;house 0 1;house 1 1;house 2 1;sight 0 1 0 23;sight 1 2 0 23;likes 0 0 2;likes 0 1 1;likes 1 0 1");
        trade(x, 2, 24 + 24, 2, 1, 0);
        // rounds alone: 0 to 1, 1 to 2, 2 to 0
        x = Checks.made("ring 0;rate 0 23 3;house 0 1;house 1 1;house 2 1;sight 0 1 0 23;sight 1 2 0 23;sight 2 0 0 23;"
                + "likes 0 0 2;likes 0 2 1;likes 1 1 2;likes 1 0 1;likes 2 2 2;likes 2 1 1");
        trade(x, 2, 144, 1, 2, 0);
    }

    private static void spare(TurnRing x, int n, int t, int much, int... rates) {
        String name = "spare " + n + " " + t + " what ";
        Checks.due(name + 0, x.spare(n, t, 0), much);
        for (int i = 1; i <= 5; i++) Checks.due(name + i, x.spare(n, t, i), i <= rates.length ? rates[i - 1] : -2);
    }

    private static void spares() {
        TurnRing x = Checks.made("ring 3;rate 0 0 6;rate 1 1 0;rate 2 2 5");
        spare(x, 1, 0, 0, 0);
        spare(x, 3, 2, 1, 0, 0, 2);
        spare(x, 3, 3, 1, 0, 1, 2);
        spare(x, 5, 10, 1, 2, 2, 2, 2, 2);
        spare(x, 4, 7, 1, 1, 2, 2, 2);
        spare(x, 2, 4, 1, 2, 2);
        spare(x, 2, 5, -2);
        spare(x, 1, 3, -2);
        x.hour();
        x.hour();
        // 3 once, 4 and 5 twice, 6 once; ANGLE 3
        spare(x, 1, 1, 2, 1);
        spare(x, 1, 2, 3, 2);
        spare(x, 2, 2, 3, 0, 2);
        x.hour();
        // 3 twice, 4 three times, 5 twice; ANGLE 5
        spare(x, 1, 1, 3, 1);
        x.stop();
        spare(x, 2, 2, 3, 0, 2);
        x = Checks.made("ring 0;rate 0 0 4;rate 1 1 2");
        x.hour();
        spare(x, 1, 0, 1, 0);
        int[][] wrong = {{0, 0, 0}, {6, 0, 0}, {1, -1, 0}, {1, 11, 0}, {1, 0, -1}, {1, 0, 6}, {LEAST, LEAST, LEAST}, {MOST, MOST, MOST}};
        for (int[] w : wrong) Checks.due("spare " + w[0] + " " + w[1] + " " + w[2], x.spare(w[0], w[1], w[2]), -1);
    }

    private static void apartByRules() {
        TurnRing x = Checks.made("ring 0;house 0 1;sight 3 0 0 23;sight 2 2 3 9", "turn 0", "turn 1", "turn 2 if worn = 0", "turn day");
        Checks.due("at 0 always, or once in 12 hours", x.apart(0, 1, 0, 3, 60), 60 - 5);
        Checks.due("the other way round", x.apart(1, 0, 0, 3, 60), 5 - 60);
        Checks.due("this one first", x.apart(0, 1, 0, 3, 1), 0);
        Checks.due("then the next", x.apart(0, 1, 0, 3, 2), 1);
        Checks.due("a rule and itself", x.apart(1, 1, 0, 3, 60), 0);
        // worn is that of the HOURS gone by: all the way round once, then it stands at 0 from HOUR 6 on
        Checks.due("by what is worn then", x.apart(2, 1, 0, 3, 24), 1 + 18 - 2);
        // by the DAY: 24 HOURS at 0, one step in each of the next 24 (0 twice), two in each of the last 12 (twice)
        Checks.due("by the day", x.apart(3, 0, 0, 3, 60), 24 + 2 + 2 - 60);
        x.stop();
        Checks.due("stopped as it is", x.apart(0, 1, 0, 3, 3), 1);
        int[][] wrong = {{-1, 0, 0, 0, 1}, {4, 0, 0, 0, 1}, {0, -1, 0, 0, 1}, {0, 4, 0, 0, 1}, {0, 0, -1, 0, 1}, {0, 0, 1, 0, 1},
            {0, 0, 0, -1, 1}, {0, 0, 0, 5, 1}, {0, 0, 0, 0, 0}, {0, 0, 0, 0, 61}, {LEAST, LEAST, LEAST, LEAST, LEAST}};
        for (int[] w : wrong) Checks.due("apart wrong", x.apart(w[0], w[1], w[2], w[3], w[4]), -100000);
    }

    private static void turned(TurnRing x, int many, int angle, int rate) {
        Checks.due("turned: how many", x.turned(0), many);
        Checks.due("turned: angle", x.turned(1), angle);
        Checks.due("turned: rate", x.turned(2), rate);
    }

    private static void diaries() {
        TurnRing x = Checks.made("ring 5;house 2 1;house 4 1;sight 1 7 0 23;sight 3 7 0 0");
        turned(x, 84, 0, -3);
        Checks.due("diary", x.diary(0, 0, 1, true), 1);
        // HOUSE 0 faced 7 at first: ANGLE 5, any rate
        turned(x, 7, 5, -3);
        x.swap(0, 1);
        Checks.due("the slot as told", x.turned(1), 5);
        Checks.due("diary", x.diary(0, 1, 1, true), 2);
        turned(x, 1, 5, 0);
        Checks.due("diary", x.diary(0, 24, 3, false), 3);
        turned(x, 0, -1000, -1000);
        Checks.due("none then", x.diary(-1, 500, 500, true), 0);
        Checks.due("none", x.count(10), 0);
        turned(x, 84, 0, -3);
        // 24 HOURS after: HOUR 0 again, and turned by 24 times the rate, which is all the way round
        x.diary(1, 24, 3, true);
        turned(x, 7, 3, -3);
        x.diary(1, 4, 1, true);
        // 4 times the rate all the way round: -3, 0, 3
        turned(x, 3, 3, -3);
        x.diary(1, 1, 1, false);
        x.diary(1, 3, 1, false);
        turned(x, 2, 3, -3);
        x.diary(1, 99, 1, false);
        for (int i = 6; i <= 10; i++) Checks.due("diary", x.diary(1, 98, 1, false), i);
        Checks.due("an eleventh", x.diary(1, 98, 1, false), -2);
        turned(x, 2, 3, -3);
        Checks.due("none then", x.diary(-1, 0, 0, false), 0);
        // HOUSE 0 faced 7 behind 1, and 0 faced 7 nowhere at first: of ANGLE and rate together 5; HOUSE 1 faced 7 behind 2
        x.diary(0, 1, 1, true);
        x.diary(1, 2, 1, true);
        // ANGLE + rate is 5, ANGLE + twice the rate is 3: the rate is -2, the ANGLE 7
        turned(x, 1, 7, -2);
        x.diary(-1, 0, 0, false);
        x.diary(0, 1, 1, true);
        // ANGLES 2 to 8 with rates 3 to -3
        turned(x, 7, 2, 3);
        x.diary(-1, 0, 0, false);
        int[][] wrong = {{-2, 0, 0}, {2, 0, 0}, {0, -1, 0}, {0, 100, 0}, {0, 0, -1}, {0, 0, 5}, {LEAST, LEAST, LEAST}, {MOST, MOST, MOST}};
        for (int[] w : wrong) Checks.due("diary " + w[0] + " " + w[1] + " " + w[2], x.diary(w[0], w[1], w[2], true), -2);
        Checks.due("nothing happens", x.count(10), 0);
        Checks.due("turned -1", x.turned(-1), -2000);
        Checks.due("turned 3", x.turned(3), -2000);
    }

    private static void look(TurnRing x, int n, int house, int sort, int many) {
        Checks.due("look " + n + ": house", x.look(n, 0), house);
        Checks.due("look " + n + ": sort", x.look(n, 1), sort);
        Checks.due("look " + n + ": many", x.look(n, 2), many);
    }

    private static void looks() {
        TurnRing x = Checks.made("ring 5;house 2 1;house 4 1;sight 1 7 0 23;sight 2 4 0 0;sight 2 5 0 0;sight 2 6 0 0");
        // of 84 SORT 1 is seen in 7, SORT 2 in 21
        look(x, 0, 0, 2, 63);
        look(x, 1, 0, 1, 77);
        x.diary(1, 0, 1, true);
        // ANGLE 3 and seven rates: HOUSE 0 faces 5, whatever the rate
        look(x, 0, 0, 0, 7);
        // behind 1 it faces 2 to 8, HOUSE 1 faces 4 to 10: each sees 7 in one of seven
        look(x, 1, 0, 1, 6);
        // behind 2 HOUSE 0 faces odd directions -1 to 11, behind 4 it faces 5, 9, 1: never 7; HOUSE 1 does at rates -3, 0, 3
        look(x, 4, 1, 1, 4);
        x.diary(1, 0, 1, false);
        look(x, 0, -2, -2, -2);
        Checks.due("look -1", x.look(-1, 0), -1);
        Checks.due("look 100", x.look(100, 0), -1);
        Checks.due("look what -1", x.look(0, -1), -1);
        Checks.due("look what 3", x.look(0, 3), -1);
        x = Checks.made("ring 0;house 0 1;sight 0 0 0 23;sight 0 1 0 23;sight 1 2 0 23");
        look(x, 0, 0, 0, 70);
        x = Checks.made("ring 0;sight 0 0 0 0");
        look(x, 99, -2, -2, -2);
    }

    private static void draws() {
        TurnRing x = Checks.made("ring 0;house 0 1;sight 0 1 0 23;likes 0 0 7;rate 1 1 0");
        // never stopped: at 1 behind HOUR 0, at 10 behind HOUR 1, at 1 again behind HOUR 4
        Checks.due("days: liked", x.days(1, 5, 0, 0), 14);
        Checks.due("days: steps, back ones too", x.days(1, 5, 0, 1), 7);
        Checks.due("days: three times from now on", x.days(3, 5, 0, 1), 21);
        Checks.due("days: always stopped", x.days(10, 96, 100, 1), 0);
        x.stop();
        Checks.due("days: stopped as it is", x.days(2, 1, 0, 1), 0);
        Checks.due("days: then no more", x.days(2, 2, 0, 1), 6);

        // in the HOUR that is then
        x = Checks.made("ring 0;house 0 1;sight 0 1 1 1;likes 0 0 7");
        Checks.due("days: behind hour 0", x.days(2, 3, 0, 0), 14);
        x = Checks.made("ring 0;house 0 1;sight 0 1 0 0;sight 0 1 2 23;likes 0 0 7");
        Checks.due("days: not in the hour before or next", x.days(1, 3, 0, 0), 0);

        // the rows of DRAWS by the document's words
        x = Checks.made("ring 0;rate 0 23 5");
        long draw = 0;
        int turns = 0;
        for (int i = 0; i < 2 * 30; i++) {
            draw = (draw * 1103515245L + 12345L) % 2147483648L;
            if (draw / 65536 % 100 >= 20) turns++;
        }
        Checks.due("days: a draw ahead of each hour, on and on", x.days(2, 30, 20, 1), 2 * turns);
        Checks.due("x as it was", x.count(12), 0);
        // the first DRAWS from 0: 12345 / 65536 is 0; then 1406932606 / 65536 is 21468
        Checks.due("0 is below 1", x.days(1, 1, 1, 1), 0);
        Checks.due("68 is not below 68", x.days(1, 2, 68, 1), 2);
        Checks.due("68 is below 69", x.days(1, 2, 69, 1), 0);
        x.seed(2147483647);
        // (2147483647 * 1103515245 + 12345) % 2147483648 is 1043980748; / 65536 is 15929
        Checks.due("29 is not below 29", x.days(1, 1, 29, 1), 2);
        Checks.due("29 is below 30", x.days(1, 1, 30, 1), 0);
        int[][] wrong = {{0, 1, 0, 0}, {11, 1, 0, 0}, {1, 0, 0, 0}, {1, 97, 0, 0}, {1, 1, -1, 0}, {1, 1, 101, 0}, {1, 1, 0, -1}, {1, 1, 0, 2},
            {LEAST, LEAST, LEAST, LEAST}, {MOST, MOST, MOST, MOST}};
        for (int[] w : wrong) Checks.due("days wrong", x.days(w[0], w[1], w[2], w[3]), -10000000);
    }

    private static void nothingChanges() {
        TurnRing x = Checks.made("ring 4;house 3 2;house 5 1;sight 0 5 0 23;sight 1 8 0 9;likes 0 0 1;loathes 1 1 2;gate 7", "turn 2", "turn 1");
        x.hour();
        x.stop();
        x.seed(5);
        x.diary(0, 0, 1, true);
        int[] before = standing(x);
        x.faces(0, 200);
        x.sees(1, 200);
        x.day(0);
        x.plan(5, true, 1);
        x.errand(0, 7, 3, 1);
        x.stay(1);
        x.swings(0);
        x.trade(3);
        x.spare(5, 7, 2);
        x.apart(0, 1, 0, 0, 60);
        x.turned(1);
        x.look(50, 2);
        x.days(10, 96, 40, 0);
        int[] after = standing(x);
        for (int i = 0; i < before.length; i++) Checks.due("by what is asked nothing changes: " + i, after[i], before[i]);
    }

    private static int[] standing(TurnRing x) {
        int[] all = new int[15 + 12 + 24 + 2];
        for (int i = 0; i < 15; i++) all[i] = x.count(i);
        for (int i = 0; i < 12; i++) all[15 + i] = x.worn(i);
        for (int i = 0; i < 24; i++) all[27 + i] = x.rateOf(i);
        for (int i = 0; i < 2; i++) all[51 + i] = x.house(i, 0);
        return all;
    }

    /** Seven HOUSES fill every row; of those that a later RING has not nothing is left. */
    private static void fewerHouses() {
        TurnRing x = Checks.made("ring 0;house 0 1;house 1 2;house 2 3;house 3 4;house 4 5;house 5 6;house 6 7;sight 0 0 0 23;sight 1 6 0 23;"
                + "likes 6 1 9;loathes 0 0 9;likes 5 1 8;rate 0 23 3", "turn stays if liked < 0 or best > 99 or least > 99;turn 1 if votes = 28");
        Checks.due("who wants it to stay", x.stay(0), 0);
        x.rate(0, 1);
        Checks.due("who wants it to stay", x.stay(0), 64);
        Checks.due("7 of 28", x.stay(1), 0);
        Checks.due("all like", x.count(7), 0);
        Checks.due("all votes", x.count(14), 28);
        Checks.due("plan", x.plan(1, false, 0), 8);
        Checks.due("plan fair", x.plan(1, true, 0), 0);
        Checks.due("look", x.look(0, 2), 77);
        Checks.due("days", x.days(1, 1, 100, 0), 0);
        Checks.due("run", x.run(0, 2), 2);
        x.back(x.image(0));
        Checks.ring(x, "ring 0;house 11 1;sight 0 0 0 23;sight 1 6 0 23;sight 0 1 0 23;sight 1 7 0 23;likes 0 0 2;rate 0 23 3");
        x.rate(0, 3);
        Checks.due("one house: who wants it to stay", x.stay(0), 0);
        Checks.due("one house: all like", x.count(7), 0);
        Checks.due("one house: all votes", x.count(14), 1);
        Checks.due("one house: swings", x.swings(0), 1);
        Checks.due("one house: plan", x.plan(1, false, 0), 2);
        Checks.due("one house: plan fair", x.plan(2, true, 0), 4);
        Checks.due("one house: trade", x.trade(0), 1);
        Checks.due("one house: its slot", x.trade(2), 11);
        for (int d = 0; d < 12; d++) Checks.due("one house: who faces " + d, x.direction(d, 0), d == 11 ? 0 : -1);
        Checks.due("one house: look", x.look(0, 2), 70);
    }
}
