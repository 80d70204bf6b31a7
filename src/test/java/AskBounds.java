/** The bounds of what is asked, sentence by sentence: promises 16 to 28, 30 and Terms III. */
public final class AskBounds {
    private static final int LEAST = Integer.MIN_VALUE;
    private static final int MOST = Integer.MAX_VALUE;

    public static void main(String[] args) {
        nothingChanges();
        facesAndSees();
        ofDays();
        plans();
        sevenThenFewer();
        plansRefused();
        errandLeft();
        errandBack();
        errandsRefused();
        stays();
        ofSwings();
        trades();
        spares();
        aparts();
        diaries();
        ofTurned();
        looks();
        draws();
        ofDaysByDraws();
        Checks.finish();
    }

    private static void nothingChanges() {
        Checks.sentence("(By what is asked nothing changes.");
        asked("faces", x -> x.faces(0, 200));
        asked("sees", x -> x.sees(1, 200));
        asked("day", x -> x.day(2));
        asked("plan", x -> x.plan(5, false, 1));
        asked("plan fair", x -> x.plan(5, true, 0));
        asked("errand", x -> x.errand(0, 4, 24, 1));
        asked("stay", x -> x.stay(0) + x.stay(1));
        asked("swings", x -> x.swings(0));
        asked("trade", x -> x.trade(2));
        asked("spare", x -> x.spare(5, 7, 1));
        asked("apart", x -> x.apart(0, 1, 0, 0, 60));
        asked("turned", x -> x.turned(1));
        asked("look", x -> x.look(99, 0));
        asked("days", x -> x.days(10, 96, 50, 0));
        asked("count", x -> x.count(7));
        asked("house", x -> x.house(0, 6));
        asked("direction", x -> x.direction(0, 0));
        asked("rateOf", x -> x.rateOf(9));
        asked("worn", x -> x.worn(3));
    }

    private static void asked(String name, Stands.Call call) {
        Stands.unchanged(name, Stands::rich, call, call.on(Stands.rich()));
    }

    // ---- promises 16 to 18

    private static void facesAndSees() {
        Checks.sentence("n HOURS on it has turned by the rates told, STOPS as they are.) FACES, SEES of a HOUSE n HOURS on (0 to 200).");
        String text = "ring 10;house 5 1;sight 0 3 0 23;sight 1 4 0 11;sight 2 9 12 23;sight 4 11 5 5;rate 0 3 6;rate 4 9 0;rate 10 10 3;rate 23 23 1";
        for (int stopped = 0; stopped <= 1; stopped++) {
            for (int what = 2; what <= 3; what++) {
                TurnRing x = Checks.made(text);
                TurnRing y = Checks.made(text);
                x.hour();
                y.hour();
                if (stopped == 1) {
                    x.stop();
                    y.stop();
                }
                for (int n = 0; n <= 200; n++) {
                    int got = what == 2 ? x.faces(0, n) : x.sees(0, n);
                    Checks.due((what == 2 ? "faces " : "sees ") + n + " hours on", got, y.house(0, what));
                    y.hour();
                }
            }
        }
        TurnRing swapped = Checks.made("ring 0;house 3 1;house 5 1;sight 0 3 0 0;sight 1 5 0 0");
        swapped.swap(0, 1);
        Checks.due("swapped: faces", swapped.faces(0, 0), 5);
        Checks.due("swapped: faces", swapped.faces(1, 2), 5);
        Checks.due("swapped: sees", swapped.sees(0, 0), 2);
        Checks.due("swapped: sees", swapped.sees(1, 0), 1);
        // one step in HOUR 7 of each DAY, which is the last that goes by in 200 HOURS
        TurnRing x = Checks.made("ring 0;house 0 1;rate 0 23 3;rate 7 7 4;sight 3 9 8 8;sight 2 8 7 7");
        Checks.due("199 hours on", x.faces(0, 199), 8);
        Checks.due("200 hours on", x.faces(0, 200), 9);
        Checks.due("199 hours on", x.sees(0, 199), 4);
        Checks.due("200 hours on", x.sees(0, 200), 8);

        Checks.sentence("FACES n HOURS on; NONE without these.");
        int[][] wrong = {{0, -1}, {0, 201}, {-1, 0}, {3, 0}, {7, 0}, {-1, -1}, {3, 201}, {0, LEAST}, {0, MOST}, {LEAST, 0}, {MOST, 0}};
        for (int[] w : wrong) Stands.refused("faces " + w[0] + " " + w[1], y -> y.faces(w[0], w[1]), -1);
        Stands.refusedWithoutRing("faces 0 0", y -> y.faces(0, 0), -1);
        Stands.unchanged("faces 0 0 of none", Stands::houseless, y -> y.faces(0, 0), -1);

        Checks.sentence("SEES n HOURS on, as bits; NONE without these.");
        for (int[] w : wrong) Stands.refused("sees " + w[0] + " " + w[1], y -> y.sees(w[0], w[1]), -1);
        Stands.refusedWithoutRing("sees 0 0", y -> y.sees(0, 0), -1);
        Stands.unchanged("sees 0 0 of none", Stands::houseless, y -> y.sees(0, 0), -1);
        Checks.due("all sorts", Checks.made("ring 0;house 0 1;sight 0 0 0 0;sight 1 0 0 0;sight 2 0 0 0;sight 3 0 0 0;sight 4 0 0 0").sees(0, 0), 31);
    }

    private static void ofDays() {
        Checks.sentence("DAY of a HOUSE: what it LIKES in 24 HOURS from now on, this one first, together.");
        String still = "ring 0;house 0 1;rate 0 23 3;likes 0 0 9";
        for (int now = 0; now < 24; now += 23) {
            for (int h = 0; h < 24; h++) {
                TurnRing x = Checks.made(still + ";sight 0 0 " + h + " " + h);
                for (int i = 0; i < now; i++) x.hour();
                Checks.due("each HOUR once: " + h + " in " + now, x.day(0), 9);
            }
        }
        Checks.due("all 24", Checks.made(still + ";sight 0 0 0 23").day(0), 24 * 9);
        // it turns away behind HOUR 0, and is one further on when HOUR 0 comes again
        Checks.due("this one with them", Checks.made("ring 0;house 0 1;rate 1 23 3;likes 0 0 9;sight 0 0 0 0").day(0), 9);
        Checks.due("the 25th not", Checks.made("ring 0;house 0 1;rate 1 23 3;likes 0 0 9;sight 0 1 0 0").day(0), 0);
        Checks.due("the 24th with them", Checks.made("ring 0;house 0 1;rate 1 23 3;loathes 0 0 9;sight 0 1 23 23").day(0), -9);
        TurnRing x = Checks.made("ring 0;house 0 1;rate 1 23 3;likes 0 0 9;sight 0 0 0 23");
        x.stop();
        Checks.due("stopped: it never turns away", x.day(0), 24 * 9);
        x = Checks.made("ring 0;house 3 1;house 5 1;rate 0 23 3;sight 0 3 0 23;likes 0 0 1;likes 1 0 2");
        Checks.due("before it is swapped", x.day(0), 24);
        x.swap(0, 1);
        Checks.due("swapped", x.day(0), 0);
        Checks.due("swapped", x.day(1), 48);

        Checks.sentence("DAY of a HOUSE; -100000 without it.");
        int[] wrong = {-1, 3, 7, LEAST, MOST};
        for (int h : wrong) Stands.refused("day " + h, y -> y.day(h), -100000);
        Stands.refusedWithoutRing("day 0", y -> y.day(0), -100000);
        Stands.unchanged("day 0 of none", Stands::houseless, y -> y.day(0), -100000);
    }

    // ---- promise 19

    private static void plan(String when, TurnRing x, int n, boolean fair, int much, int... rates) {
        String name = when + ": plan " + n + (fair ? " fair" : "") + " what ";
        Checks.due(name + 0, x.plan(n, fair, 0), much);
        for (int i = 1; i <= 5; i++) Checks.due(name + i, x.plan(n, fair, i), i <= n ? rates[i - 1] : -2);
    }

    /** The first of all rows of n rates -1, 0, 1 that are sum together. */
    private static int[] firstRow(int n, int sum) {
        int[] row = new int[n];
        int left = sum;
        for (int i = 0; i < n; i++) {
            int behind = n - 1 - i;
            row[i] = -1;
            while (left - row[i] > behind) row[i]++;
            left -= row[i];
        }
        return row;
    }

    private static void plans() {
        Checks.sentence("PLAN for n HOURS (1 to 5): rates -1, 0, 1 for each of these HOURS by which what all HOUSES LIKE behind each of them (in the HOUR that is then) together is greatest; of several the first row (STOPS not asked).");
        for (int n = 1; n <= 5; n++) {
            for (int away = -5; away <= 5; away++) {
                // from HOUR 22: what is liked is so many steps away, in the HOUR behind n HOURS alone
                int then = (22 + n) % 24;
                TurnRing x = Checks.made("ring 11;rate 0 23 3;house 3 1;sight 0 " + Math.floorMod(14 + away, 12) + " " + then + " " + then + ";likes 0 0 7");
                for (int i = 0; i < 22; i++) x.hour();
                boolean can = Math.abs(away) <= n;
                plan(away + " away", x, n, false, can ? 7 : 0, firstRow(n, can ? away : -n));
                plan(away + " away", x, n, true, can ? 7 : 0, firstRow(n, can ? away : -n));
                x.stop();
                plan(away + " away, stopped", x, n, false, can ? 7 : 0, firstRow(n, can ? away : -n));
            }
        }
        TurnRing x = Checks.made("ring 0;house 0 1;sight 0 0 0 0;sight 0 11 0 0;sight 0 1 0 0;likes 0 0 9");
        plan("not in the HOUR that is now", x, 1, false, 0, -1);
        x = Checks.made("ring 0;house 0 1;sight 0 0 0 23;likes 0 0 9");
        plan("behind each of them", x, 5, false, 45, 0, 0, 0, 0, 0);
        // there and back: at 1 in HOUR 1, at 0 in HOUR 2, at 11 in HOUR 3, at 0 in HOUR 4, at 1 in HOUR 5
        x = Checks.made("ring 0;house 0 1;sight 0 1 1 1;sight 0 0 2 2;sight 0 11 3 3;sight 0 0 4 4;sight 0 1 5 5;likes 0 0 2");
        for (int n = 1; n <= 5; n++) plan("there and back", x, n, false, 2 * n, 1, -1, -1, 1, 1);
        x = Checks.made("ring 0;house 0 1;sight 0 0 0 23;sight 0 1 0 23;sight 0 11 0 23;loathes 0 0 9");
        plan("below 0", x, 1, false, -9, -1);
        plan("below 0", x, 2, false, -9, -1, -1);
        // HOUSES 0 and 1 together like 4 where HOUSE 2 likes 3
        x = Checks.made("ring 0;house 0 1;house 1 1;house 6 1;sight 0 1 0 23;sight 1 2 0 23;sight 2 5 0 23;likes 0 0 2;likes 1 1 2;likes 2 2 3");
        plan("all HOUSES together", x, 1, false, 4, 1);

        Checks.sentence("FAIR: likewise, but what the HOUSE that LIKES least has of them together is greatest.");
        // HOUSE 0 likes it at 0, HOUSE 1 when it is turned by one
        x = Checks.made("ring 0;house 0 1;house 6 1;sight 0 0 0 23;sight 1 7 0 23;likes 0 0 9;likes 1 1 1");
        plan("the greater sum", x, 2, false, 18, 0, 0);
        plan("the greater least", x, 2, true, 1, 0, 1);
        plan("the greater least", x, 3, true, 2, 0, 1, 0);
        plan("the greater least", x, 1, true, 0, -1);
        x = Checks.made("ring 0;house 0 1;house 6 1;sight 0 1 0 23;sight 0 0 0 23;sight 1 5 0 23;loathes 0 0 2;loathes 1 1 5");
        plan("below 0", x, 1, true, -2, 0);
        x = Checks.made("ring 0;house 0 1;house 1 1;house 2 1;house 3 1;house 4 1;house 5 1;house 6 1;sight 0 5 0 23;loathes 6 0 3");
        plan("the last of seven", x, 1, true, 0, 0);
        plan("the last of seven", x, 2, true, 0, 0, 0);
    }

    /** What seven HOUSES had is no more with a RING of fewer. */
    private static void sevenThenFewer() {
        Checks.sentence("HOUSES 0 to 6, SIGHTS 0 to 11, in the order told.");
        String seven = "ring 0;rate 0 23 3;house 0 1;house 1 1;house 2 1;house 3 1;house 4 1;house 5 1;house 6 1;sight 0 0 0 23;sight 4 6 0 23";
        TurnRing x = Checks.made(seven + ";likes 0 0 3;likes 6 4 9");
        plan("seven", x, 5, false, 60, 0, 0, 0, 0, 0);
        plan("seven", x, 5, true, 0, -1, -1, -1, -1, -1);
        // HOUSES 0 and 6 keep their SLOTS
        trade("seven", x, 120, 24 * 12, 0, 1, 2, 3, 4, 5, 6);
        look("seven", x, 99, 0, 0, 77);
        Checks.due("seven: days", x.days(10, 96, 0, 0), 960 * 12);
        Checks.due("seven: who stays", x.stay(0), 0);
        Checks.due("another RING", Checks.ring(x, "ring 0;rate 0 23 3;house 3 1;house 5 1;sight 0 3 0 23;sight 0 5 0 23;likes 0 0 1"), 2);
        plan("two", x, 5, false, 5, 0, 0, 0, 0, 0);
        plan("two", x, 5, true, 0, -1, -1, -1, -1, -1);
        trade("two", x, 2, 24, 3, 5);
        look("two", x, 0, 0, 0, 70);
        Checks.due("two: days", x.days(10, 96, 0, 0), 960);
        Checks.due("a third RING", Checks.ring(x, "ring 0;house 3 1"), 1);
        trade("one", x, 1, 0, 3);
        plan("one", x, 1, true, 0, -1);
        // in HOUR 23 SORT 4 is at 6 to 9, in four of twelve directions
        x = Checks.made(seven + ";sight 4 7 23 23;sight 4 8 23 23;sight 4 9 23 23");
        look("the last SORT", x, 23, 0, 4, 56);
        x.diary(0, 0, 0, true);
        x.diary(0, 1, 0, true);
        // ANGLE 0 and rate 0: one alone, and nothing parts it
        Checks.due("one", x.turned(0), 1);
        look("one", x, 23, 0, 0, 1);
        x = Checks.made("ring 0;house 0 1;house 1 1;house 2 1;house 3 1;house 4 1;house 5 1;house 11 1;sight 0 0 0 0;sight 4 9 1 1");
        x.diary(0, 0, 0, true);
        // ANGLE 0: behind 1 HOUR HOUSE 0 faces 9 to 3 and so may see it, behind 2 HOURS in HOUR 2 nobody does
        look("HOUSE 0", x, 1, 0, 4, 6);
        look("nobody", x, 2, 0, 0, 7);
        x = Checks.made("ring 0;house 0 1;house 1 1;house 2 1;house 3 1;house 4 1;house 5 1;house 11 1;sight 0 0 0 0;sight 4 8 1 1");
        x.diary(0, 0, 0, true);
        // HOUSE 6 faces 8 to 2, the others 9 and more, or up to 8: HOUSE 5 does by 3
        look("HOUSE 5 by 3", x, 1, 5, 4, 6);
        x = Checks.made("ring 0;house 0 1;house 1 1;house 2 1;house 3 1;house 4 1;house 11 1;house 10 1;sight 0 0 0 0;sight 4 8 1 1;sight 4 7 1 1");
        x.diary(0, 0, 0, true);
        // HOUSE 4 sees 7 by 3; HOUSE 5 faces 8 by -3; HOUSE 6 faces 7 by -3 and 8 by -2
        look("HOUSE 6 by -3 and -2", x, 1, 6, 4, 5);
    }

    private static void plansRefused() {
        Checks.sentence("PLAN (fair: FAIR) for n HOURS what 0: how much, 1 to 5: the rate of that HOUR (-2: so many there are not).");
        for (int n = 1; n <= 5; n++) {
            for (int what = 0; what <= 5; what++) {
                boolean there = what <= n;
                int got = Checks.made("ring 0;house 0 1;sight 0 0 0 23;likes 0 0 1").plan(n, false, what);
                Checks.due("plan " + n + " what " + what, got, !there ? -2 : what == 0 ? n : 0);
            }
        }

        Checks.sentence("-100000 without these, or a RING with HOUSES.");
        int[][] wrong = {{0, 0}, {6, 0}, {-1, 0}, {1, -1}, {1, 6}, {5, 6}, {0, 1}, {6, 6}, {LEAST, 0}, {MOST, 0}, {1, LEAST}, {1, MOST}};
        for (int[] w : wrong) {
            Stands.refused("plan " + w[0] + " what " + w[1], y -> y.plan(w[0], false, w[1]), -100000);
            Stands.refused("plan " + w[0] + " fair what " + w[1], y -> y.plan(w[0], true, w[1]), -100000);
        }
        Stands.refusedWithoutRing("plan 1", y -> y.plan(1, false, 0), -100000);
        Stands.unchanged("plan 1 of none", Stands::houseless, y -> y.plan(1, false, 0), -100000);
        Stands.unchanged("plan 1 what 2 of none", Stands::houseless, y -> y.plan(1, true, 2), -100000);
    }

    // ---- promise 20

    private static void errand(String when, TurnRing x, int gate, int w, int left, int back) {
        String name = when + ": errand to " + gate + " for " + w + " what ";
        Checks.due(name + 0, x.errand(0, gate, w, 0), left);
        Checks.due(name + 1, x.errand(0, gate, w, 1), back);
    }

    private static void errandLeft() {
        Checks.sentence("it is left at the first HOUR from now on (now: 0; 48 at most) at whose begin it FACES that gate");
        errand("now", Checks.made("ring 0;house 3 1;gate 3"), 3, 0, 0, 0);
        for (int gate = 0; gate < 12; gate++) errand("a step an HOUR", Checks.made("ring 0;house 0 1;gate " + gate), gate, 0, gate, gate);
        TurnRing x = Checks.made("ring 0;house 0 1;gate 3;gate 0");
        x.hour();
        errand("behind an HOUR", x, 0, 0, 11, 11);
        x.stop();
        errand("stopped", x, 3, 0, 3, 3);
        errand("not while it turns by", Checks.made("ring 0;house 0 1;gate 1;rate 0 23 5"), 1, 0, -2, -2);
        // one step in HOUR 23 of each DAY, or in HOUR 0
        errand("48 at most", Checks.made("ring 0;house 0 1;gate 2;rate 0 22 3"), 2, 0, 48, 48);
        errand("49 is too late", Checks.made("ring 0;house 0 1;gate 3;rate 1 23 3"), 3, 0, -2, -2);
        errand("25 is not", Checks.made("ring 0;house 0 1;gate 2;rate 1 23 3"), 2, 0, 25, 25);
        errand("never", Checks.made("ring 0;house 0 1;gate 3;rate 0 23 3"), 3, 0, -2, -2);
        errand("72 is too late", Checks.made("ring 0;house 0 1;gate 3;rate 0 22 3"), 3, 0, -2, -2);
    }

    private static void errandBack() {
        Checks.sentence("ERRAND of a HOUSE to a gate for w HOURS (0 to 24)");
        for (int w = 0; w <= 24; w++) errand("it stands still", Checks.made("ring 0;house 5 1;gate 5;rate 0 23 3"), 5, w, 0, w);

        Checks.sentence("behind w HOURS more one goes to any gate, an HOUR for each direction between (the shorter way round)");
        for (int gate = 0; gate < 12; gate++) {
            for (int other = 0; other < 12; other++) {
                if (other == gate) continue;
                // it goes from the one to the other in HOURS 0 and 1, and stays there
                int way = Math.floorMod(other - gate, 12);
                int turn = way <= 6 ? way : way - 12;
                int first = Math.max(-3, Math.min(3, turn));
                TurnRing x = Checks.made("ring " + gate + ";house 0 1;gate " + gate + ";gate " + other + ";rate 2 23 3;rate 0 0 " + (first + 3)
                        + ";rate 1 1 " + (turn - first + 3));
                errand("to " + other, x, gate, 1, 0, 1 + Math.min(way, 12 - way));
                errand("at once", x, gate, 0, 0, 0);
            }
        }

        Checks.sentence("and is back at the first HOUR from then on at whose begin it FACES that one (of all gates the soonest; 96 HOURS from now at most): HOURS till one leaves, till one is back.");
        TurnRing x = Checks.made("ring 0;house 0 1;gate 0;gate 4");
        // behind 1 one can be at 4 in HOUR 5, when it is gone by: 16; but it comes to 0 in HOUR 12
        errand("0 is sooner", x, 0, 1, 0, 12);
        // behind 12 one stands at 0 and it comes by; behind 13 at 4 in HOUR 17: 28; at 0 in HOUR 13: 24
        errand("0 is sooner", x, 0, 12, 0, 12);
        errand("0 is sooner", x, 0, 13, 0, 24);
        // left in HOUR 4; behind 1 at 4 in HOUR 5: 16; at 0 in HOUR 9: 12
        errand("0 is sooner", x, 4, 1, 4, 12);
        // behind 5 at 0 in HOUR 13: 24; at 4 in HOUR 9: 16
        errand("4 is sooner", x, 4, 5, 4, 16);
        // behind 4 at 0 in HOUR 12: just so
        errand("just so", x, 4, 4, 4, 12);
        // three steps in HOUR 23 of each DAY: at 0 again from HOUR 96 on
        errand("96 at most", Checks.made("ring 0;house 0 1;gate 0;rate 0 22 3;rate 23 23 6"), 0, 24, 0, 96);
        // in HOUR 0 of each DAY: it faces 0 from HOUR 1 to 24, and again from HOUR 97 on
        x = Checks.made("ring 9;house 0 1;gate 0;rate 1 23 3;rate 0 0 6");
        errand("24 is not too late", x, 0, 23, 1, 24);
        errand("97 is too late", x, 0, 24, -2, -2);
        // left in HOUR 48, 24 HOURS and a way of six
        errand("48, 24 and 6", Checks.made("ring 0;house 0 1;gate 6;gate 0;rate 0 22 3;rate 23 23 6"), 6, 24, 48, 96);
        x = Checks.made("ring 4;house 0 1;gate 0;gate 6;rate 0 22 3");
        errand("to 6 in HOUR 48, and it stays till 71", x, 6, 23, 48, 71);
        errand("then it is gone", x, 6, 24, -2, -2);
        x = Checks.made("ring 4;house 0 1;gate 7;gate 6;rate 0 22 3");
        errand("to 6 in HOUR 48, back at 7 in HOUR 73", x, 6, 24, 48, 73);
        x.stop();
        errand("stopped in an HOUR it would not turn in", x, 6, 24, 48, 73);
    }

    private static void errandsRefused() {
        Checks.sentence("ERRAND what 0: HOURS till one leaves, 1: till one is back; -2: it can't be. NONE without these (a gate).");
        TurnRing x = Stands.rich();
        // SLOT 3 at ANGLE 3 in HOUR 9, stopped, then -2 in no HOUR but 9: it faces 10 behind 1 + 4 HOURS
        Checks.due("what 0", x.errand(0, 10, 1, 0), 5);
        // one can be at 4 in 5 + 1 + 6, when it has just gone by; it comes to 10 again behind 12 HOURS more
        Checks.due("what 1", x.errand(0, 10, 1, 1), 17);
        int[][] wrong = {{-1, 10, 0, 0}, {3, 10, 0, 0}, {7, 10, 0, 0}, {0, 9, 0, 0}, {0, 0, 0, 0}, {0, 11, 0, 0}, {0, -1, 0, 0}, {0, 12, 0, 0}, {0, 22, 0, 0},
            {0, 10, -1, 0}, {0, 10, 25, 0}, {0, 10, 0, -1}, {0, 10, 0, 2}, {LEAST, 10, 0, 0}, {MOST, 10, 0, 0}, {0, LEAST, 0, 0}, {0, MOST, 0, 0},
            {0, 10, LEAST, 0}, {0, 10, MOST, 0}, {0, 10, 0, LEAST}, {0, 10, 0, MOST}, {0, 36, 0, 0}, {0, 42, 0, 0}, {0, -22, 0, 0}};
        for (int[] w : wrong) Stands.refused("errand " + w[0] + " " + w[1] + " " + w[2] + " " + w[3], y -> y.errand(w[0], w[1], w[2], w[3]), -1);
        Stands.refusedWithoutRing("errand 0 0 0 0", y -> y.errand(0, 0, 0, 0), -1);
        Stands.unchanged("errand 0 3 0 0 of none", Stands::houseless, y -> y.errand(0, 3, 0, 0), -1);
        x = Checks.made("ring 0;house 0 1;gate 0;gate 11;rate 0 23 3");
        Checks.due("gate 0", x.errand(0, 0, 0, 0), 0);
        Checks.due("gate 11: it can't be", x.errand(0, 11, 0, 0), -2);
        Checks.due("gate 11: it can't be", x.errand(0, 11, 0, 1), -2);
        Checks.due("all HOUSES", Checks.made("ring 0;house 0 1;house 1 1;house 2 1;house 3 1;house 4 1;house 5 1;house 6 1;gate 6").errand(6, 6, 24, 1), 24);
    }

    // ---- promises 21 to 23

    private static void stays() {
        Checks.sentence("STAY: who WANTS IT TO STAY now; whether their VOTES are more than half of all.");
        // HOUSES stand at even SLOTS, and like what is there; those told to
        for (int who = 0; who < 8; who++) {
            for (int votes = 1; votes <= 9; votes++) {
                StringBuilder text = new StringBuilder("ring 0;house 0 " + votes + ";house 2 4;house 4 2;sight 0 0 0 0;sight 0 2 0 0;sight 0 4 0 0");
                int[] all = {votes, 4, 2};
                int sum = 0;
                for (int h = 0; h < 3; h++) {
                    if ((who >> h & 1) != 0) {
                        text.append(";likes " + h + " 0 1");
                        sum += all[h];
                    }
                }
                TurnRing x = Checks.made(text.toString());
                Checks.due("who", x.stay(0), who);
                Checks.due(sum + " of " + (votes + 6), x.stay(1), sum > votes + 6 - sum ? 1 : 0);
            }
        }
        Checks.due("all seven", Checks.made("ring 0;house 0 1;house 1 1;house 2 1;house 3 1;house 4 1;house 5 1;house 6 1;rate 0 0 2;sight 0 11 0 0;loathes 0 0 1").stay(0), 1);
        Checks.due("the seventh", Checks.made("ring 0;house 0 1;house 1 1;house 2 1;house 3 1;house 4 1;house 5 1;house 6 9;sight 0 7 0 0;loathes 6 0 1").stay(0), 64);
        Checks.due("the seventh", Checks.made("ring 0;house 0 1;house 1 1;house 2 1;house 3 1;house 4 1;house 5 1;house 6 9;sight 0 7 0 0;loathes 6 0 1").stay(1), 1);

        Checks.sentence("STAY what 0: who, as bits, 1: 1 if it stays, else 0. NONE for others, or without a RING.");
        int[] wrong = {-1, 2, 3, LEAST, MOST};
        for (int what : wrong) Stands.refused("stay " + what, y -> y.stay(what), -1);
        for (int what = 0; what <= 1; what++) {
            int asked = what;
            Stands.refusedWithoutRing("stay " + what, y -> y.stay(asked), -1);
            Stands.unchanged("stay " + what + " of none", Stands::houseless, y -> y.stay(asked), 0);
        }
    }

    private static void ofSwings() {
        Checks.sentence("SWINGS of a HOUSE: sets of others whose VOTES are not more than half of all, but are with it.");
        Checks.due("alone: the empty set", Checks.made("ring 0;house 0 1").swings(0), 1);
        TurnRing x = Checks.made("ring 0;house 0 1;house 1 1");
        // 1 of 2 is not more than half: only with the other
        Checks.due("of two: {1}", x.swings(0), 1);
        Checks.due("of two: {0}", x.swings(1), 1);
        x = Checks.made("ring 0;house 0 2;house 1 1;house 2 1");
        Checks.due("2 is just half: {1}, {2}, {1, 2}", x.swings(0), 3);
        Checks.due("{0}", x.swings(1), 1);
        x = Checks.made("ring 0;house 0 3;house 1 1;house 2 1");
        Checks.due("3 is more than half: every set", x.swings(0), 4);
        Checks.due("none", x.swings(1), 0);
        x = Checks.made("ring 0;house 0 1;house 1 1;house 2 1;house 3 1;house 4 1;house 5 1;house 6 1");
        for (int h = 0; h < 7; h++) Checks.due("three of six", x.swings(h), 20);
        x = Checks.made("ring 0;house 0 9;house 1 9;house 2 9;house 3 9;house 4 9;house 5 9;house 6 9");
        Checks.due("three of six", x.swings(6), 20);
        x = Checks.made("ring 0;house 0 1;house 1 1;house 2 1;house 3 1;house 4 1;house 5 1");
        Checks.due("three of five", x.swings(5), 10);

        Checks.sentence("SWINGS; NONE without that HOUSE.");
        int[] wrong = {-1, 3, 7, LEAST, MOST, 32};
        for (int h : wrong) Stands.refused("swings " + h, y -> y.swings(h), -1);
        Stands.refusedWithoutRing("swings 0", y -> y.swings(0), -1);
        Stands.unchanged("swings 0 of none", Stands::houseless, y -> y.swings(0), -1);
    }

    private static void trade(String when, TurnRing x, int rows, int together, int... slots) {
        Checks.due(when + ": trade rows", x.trade(0), rows);
        Checks.due(when + ": trade together", x.trade(1), together);
        for (int h = 0; h < 7; h++) Checks.due(when + ": trade slot of " + h, x.trade(2 + h), h < slots.length ? slots[h] : -2);
    }

    private static void trades() {
        Checks.sentence("TRADE: rows of SLOTS for HOUSES (the SLOTS they have, each once) by which nobody's DAY is less than now: that by which all DAYS together are greatest; of several the first; how many such rows there are.");
        trade("one", Checks.made("ring 0;house 11 1;sight 0 0 0 23;likes 0 0 9"), 1, 18, 11);
        // it stands still, so a DAY is 24 times what is liked
        String still = "ring 0;rate 0 23 3;house 11 1;house 0 1;sight 0 0 0 23;sight 1 11 0 23";
        trade("as it is, or swapped", Checks.made(still), 2, 0, 0, 11);
        trade("both want the other", Checks.made(still + ";likes 0 0 1;likes 1 1 2"), 2, 72, 0, 11);
        trade("one wants, one does not mind", Checks.made(still + ";likes 0 0 1"), 2, 24, 0, 11);
        trade("one would be worse off", Checks.made(still + ";likes 0 0 9;likes 1 0 1"), 1, 24, 11, 0);
        trade("both as well off: the first", Checks.made(still + ";likes 0 0 1;likes 0 1 1"), 2, 24, 0, 11);
        trade("worse by being loathed", Checks.made(still + ";loathes 1 1 1"), 1, 0, 11, 0);
        TurnRing x = Checks.made(still + ";likes 0 0 1;likes 1 1 2");
        x.swap(0, 1);
        trade("swapped already", x, 1, 72, 0, 11);
        // a DAY is from now on, this HOUR first, stopped as it is: HOUR 0 is HOUSE 0's alone
        x = Checks.made("ring 0;house 0 1;house 1 1;sight 0 0 0 0;sight 0 1 1 1;likes 0 0 1;likes 1 0 1");
        trade("it turns by both", x, 1, 2, 0, 1);
        x.stop();
        trade("stopped: HOUSE 1 sees it then", x, 2, 2, 0, 1);
        String seven = "ring 0;rate 0 23 3;house 6 1;house 5 1;house 4 1;house 3 1;house 2 1;house 1 1;house 0 1";
        trade("seven that don't mind", Checks.made(seven), 5040, 0, 0, 1, 2, 3, 4, 5, 6);
        // HOUSE 0 has SLOT 6 and likes it
        trade("six that don't mind", Checks.made(seven + ";sight 0 6 0 23;likes 0 0 1"), 720, 24, 6, 0, 1, 2, 3, 4, 5);
        trade("the last wants the first's", Checks.made(seven + ";sight 0 6 0 23;likes 6 0 1"), 5040, 24, 0, 1, 2, 3, 4, 5, 6);
        trade("HOUSE 1 wants SLOT 0", Checks.made(seven + ";sight 0 0 0 23;likes 1 0 1"), 5040, 24, 1, 0, 2, 3, 4, 5, 6);

        Checks.sentence("TRADE what 0: how many rows, 1: all DAYS together, 2 to 8: the SLOT of the HOUSE in that place less 2 (-2: so many there are not). -100000 without these, or a RING.");
        trade("none", Checks.made("ring 0"), 1, 0);
        int[] wrong = {-1, 9, 10, -2, LEAST, MOST};
        for (int what : wrong) Stands.refused("trade " + what, y -> y.trade(what), -100000);
        for (int what = 0; what <= 8; what++) {
            int asked = what;
            Stands.refusedWithoutRing("trade " + what, y -> y.trade(asked), -100000);
        }
        for (int what = 5; what <= 8; what++) {
            int asked = what;
            Stands.refused("trade " + what + " of three", y -> y.trade(asked), -2);
        }
    }

    // ---- promise 24

    private static void spares() {
        Checks.sentence("SPARE for n HOURS (1 to 5), t steps (0 to 10): rates 0, 1, 2 for these, t together, by which the spoke worn most is worn least at the end; of several the first row; how much.");
        for (int n = 1; n <= 5; n++) {
            for (int t = 0; t <= 10; t++) {
                boolean can = t <= 2 * n;
                for (int angle = 0; angle < 12; angle += 11) {
                    TurnRing x = Checks.made("ring " + angle + ";rate 0 23 0");
                    Checks.due("spare " + n + " " + t + ": how much", x.spare(n, t, 0), !can ? -2 : t == 0 ? 0 : 1);
                    int left = t;
                    for (int i = n; i >= 1; i--) {
                        int rate = Math.min(2, left);
                        left -= rate;
                        Checks.due("spare " + n + " " + t + " what " + i, x.spare(n, t, i), can ? rate : -2);
                    }
                    for (int i = n + 1; i <= 5; i++) Checks.due("spare " + n + " " + t + " what " + i, x.spare(n, t, i), -2);
                }
            }
        }
        // ANGLE 3 with 9, 10, 11, 0, 1, 2 worn once
        TurnRing x = Checks.made("ring 9;rate 0 1 6");
        x.hour();
        x.hour();
        Checks.due("no steps", x.spare(1, 0, 0), 1);
        Checks.due("six steps over spokes that are not worn", x.spare(3, 6, 0), 1);
        Checks.due("a seventh", x.spare(4, 7, 0), 2);
        Checks.due("ten", x.spare(5, 10, 0), 2);
        x.stop();
        Checks.due("stopped: t steps all the same", x.spare(4, 7, 0), 2);
        Checks.due("stopped: the first row", x.spare(4, 7, 1), 1);

        Checks.sentence("SPARE what 0: how much, 1 to 5: the rate of that HOUR (-2: so many there are not); -2: it can't be. NONE without these, or a RING.");
        int[][] wrong = {{0, 0, 0}, {6, 0, 0}, {-1, 0, 0}, {1, -1, 0}, {1, 11, 0}, {5, 11, 0}, {1, 0, -1}, {1, 0, 6}, {6, 11, 6},
            {LEAST, 0, 0}, {MOST, 0, 0}, {1, LEAST, 0}, {1, MOST, 0}, {1, 0, LEAST}, {1, 0, MOST}};
        for (int[] w : wrong) Stands.refused("spare " + w[0] + " " + w[1] + " " + w[2], y -> y.spare(w[0], w[1], w[2]), -1);
        Stands.refusedWithoutRing("spare 1 0 0", y -> y.spare(1, 0, 0), -1);
        Stands.refusedWithoutRing("spare 1 3 0", y -> y.spare(1, 3, 0), -1);
        Stands.refused("spare 1 3 0: it can't be", y -> y.spare(1, 3, 0), -2);
        Stands.refused("spare 1 0 2: so many there are not", y -> y.spare(1, 0, 2), -2);
    }

    // ---- promise 25

    private static void aparts() {
        Checks.sentence("APART of two RULES for a HOUSE, a SORT, n HOURS (1 to 60): at how many begins of these (this one first) it SEES it by the one, less by the other.");
        TurnRing x = Checks.made("ring 0;house 0 1;house 11 1;sight 3 0 0 23;sight 4 2 0 23", "turn 0", "turn 1", "turn 2");
        for (int n = 1; n <= 60; n++) {
            int once = (n + 11) / 12;
            Checks.due("it stays, or is there each 12th HOUR: " + n, x.apart(0, 1, 0, 3, n), n - once);
            Checks.due("the other way round: " + n, x.apart(1, 0, 0, 3, n), once - n);
            Checks.due("a RULE and itself: " + n, x.apart(1, 1, 0, 3, n), 0);
            // the other HOUSE is at 2 in HOUR 3 and each 12th from there; by 2 it never is
            Checks.due("the other: " + n, x.apart(1, 2, 1, 4, n), (n + 8) / 12);
        }
        Checks.due("a SORT that is not there", x.apart(0, 1, 0, 0, 60), 0);
        x.stop();
        Checks.due("stopped in the first, by both", x.apart(0, 1, 0, 3, 2), 0);
        Checks.due("then it turns away", x.apart(0, 1, 0, 3, 3), 1);
        x = Checks.made("ring 0;house 0 1;sight 0 0 0 23", "turn 0", "turn 1 if worn = 0");
        Checks.due("worn goes on in what is asked: once round, then it stays", x.apart(0, 1, 0, 0, 24), 11);
        x = Checks.made("ring 0;house 0 1;sight 0 0 23 23", "turn 0", "turn 1 if hour = 23", "turn 1 if day = 1");
        Checks.due("at the begin of HOUR 23", x.apart(0, 1, 0, 0, 60), 1);
        Checks.due("and of DAY 1, when it has gone round 23 steps", x.apart(0, 2, 0, 0, 60), 1);

        Checks.sentence("APART; -100000 without these.");
        int[][] wrong = {{-1, 0, 0, 0, 1}, {2, 0, 0, 0, 1}, {6, 0, 0, 0, 1}, {0, -1, 0, 0, 1}, {0, 2, 0, 0, 1}, {0, 0, -1, 0, 1}, {0, 0, 3, 0, 1},
            {0, 0, 0, -1, 1}, {0, 0, 0, 5, 1}, {0, 0, 0, 0, 0}, {0, 0, 0, 0, -1}, {0, 0, 0, 0, 61}, {LEAST, 0, 0, 0, 1}, {MOST, 0, 0, 0, 1},
            {0, LEAST, 0, 0, 1}, {0, MOST, 0, 0, 1}, {0, 0, LEAST, 0, 1}, {0, 0, MOST, 0, 1}, {0, 0, 0, LEAST, 1}, {0, 0, 0, MOST, 1},
            {0, 0, 0, 0, LEAST}, {0, 0, 0, 0, MOST}, {0, 0, 0, 32, 1}};
        for (int[] w : wrong) {
            Stands.refused("apart " + w[0] + " " + w[1] + " " + w[2] + " " + w[3] + " " + w[4], y -> y.apart(w[0], w[1], w[2], w[3], w[4]), -100000);
        }
        Stands.refusedWithoutRing("apart 0 0 0 0 1", y -> y.apart(0, 0, 0, 0, 1), -100000);
        Stands.unchanged("apart 0 0 0 0 1 of none", Stands::houseless, y -> y.apart(0, 0, 0, 0, 1), -100000);
        Stands.unchanged("apart without RULES", () -> Checks.made(Stands.RING), y -> y.apart(0, 0, 0, 0, 1), -100000);
    }

    // ---- promises 26 to 28

    private static TurnRing fullDiary() {
        TurnRing x = Stands.rich();
        for (int i = 2; i < 10; i++) x.diary(1, i, 3, false);
        return x;
    }

    private static void diaries() {
        Checks.sentence("DIARY 0 to 9, told: n HOURS after the ring's first HOUR (0 to 99) a HOUSE (SLOT as the text told it) saw a SORT, or did not.");
        TurnRing x = Checks.made(Stands.RING);
        for (int i = 1; i <= 10; i++) Checks.due("diary", x.diary(i % 3, i * 9, i % 5, false), i);
        Checks.due("lines", x.count(10), 10);
        // SLOT 5, SORT 0 at 5 alone: the ANGLE was 0 if it was seen at once, whatever was swapped and turned since
        String text = "ring 7;house 5 1;house 6 1;sight 0 5 0 23";
        x = Checks.made(text);
        x.hour();
        x.swap(0, 1);
        Checks.due("now, with nothing gone by", x.diary(0, 0, 0, true), 1);
        Checks.due("angle", x.turned(1), 0);
        Checks.due("any rate", x.turned(0), 7);
        x = Checks.made(text);
        x.diary(0, 99, 0, true);
        // 99 times the rate is 3 times the rate: ANGLES 0, 3, 6, 9 with -3 and so on
        Checks.due("99: as many as rates", x.turned(0), 7);
        Checks.due("99: ANGLE 0 with rate 0", x.turned(1), 0);
        Checks.due("99: ANGLE 0 with rate 0", x.turned(2), 0);
        x.diary(0, 0, 0, false);
        Checks.due("99, and not at first", x.turned(0), 6);
        Checks.due("ANGLE 3, 3 times which rate is 9", x.turned(1), 3);
        Checks.due("rate 3, not -1", x.turned(2), -1);

        Checks.sentence("A line of DIARY (house NONE: there is none then, 0; n 0 to 99)");
        x = Stands.rich();
        Checks.due("none", x.diary(-1, 0, 0, true), 0);
        Checks.due("lines", x.count(10), 0);
        Checks.due("all turns", x.turned(0), 84);
        Checks.due("the first again", x.diary(0, 0, 0, true), 1);
        x = fullDiary();
        Checks.due("none of ten, whatever else is told", x.diary(-1, 100, 5, false), 0);
        Checks.due("lines", x.count(10), 0);
        Checks.due("none of none", x.diary(-1, 0, 0, true), 0);
        for (int n = 0; n <= 99; n += 99) {
            x = Stands.rich();
            Checks.due("n " + n, x.diary(2, n, 4, false), 3);
        }

        Checks.sentence("how many; -2, and nothing happens, without these, or if there are 10.");
        int[][] wrong = {{-2, 0, 0}, {3, 0, 0}, {7, 0, 0}, {0, -1, 0}, {0, 100, 0}, {0, 0, -1}, {0, 0, 5}, {LEAST, 0, 0}, {MOST, 0, 0},
            {0, LEAST, 0}, {0, MOST, 0}, {0, 0, LEAST}, {0, 0, MOST}, {0, 0, 32}};
        for (int[] w : wrong) {
            Stands.refused("diary " + w[0] + " " + w[1] + " " + w[2], y -> y.diary(w[0], w[1], w[2], true), -2);
            Stands.refused("diary " + w[0] + " " + w[1] + " " + w[2] + " not", y -> y.diary(w[0], w[1], w[2], false), -2);
        }
        Stands.unchanged("an eleventh", AskBounds::fullDiary, y -> y.diary(0, 0, 2, false), -2);
        Stands.refusedWithoutRing("diary 0 0 0", y -> y.diary(0, 0, 0, true), -2);
        Stands.unchanged("diary 0 0 0 of none", Stands::houseless, y -> y.diary(0, 0, 0, false), -2);
    }

    private static void turned(String when, TurnRing x, int many, int angle, int rate) {
        Checks.due(when + ": turned, how many", x.turned(0), many);
        Checks.due(when + ": turned, the angle", x.turned(1), angle);
        Checks.due(when + ": turned, the rate", x.turned(2), rate);
    }

    private static void ofTurned() {
        Checks.sentence("TURNED: ANGLES at that first HOUR (0 to 11) and rates (-3 to 3, all HOURS alike, no STOPS) by which all DIARY is so: how many; the first (by ANGLES, then rates).");
        String text = "ring 7;house 0 1;sight 0 0 0 23;sight 1 11 5 5";
        turned("no DIARY", Checks.made(text), 84, 0, -3);
        turned("no HOUSES", Checks.made("ring 7"), 84, 0, -3);
        for (int n = 0; n <= 99; n += 9) {
            for (int seen = 0; seen <= 1; seen++) {
                TurnRing x = Checks.made(text);
                x.hour();
                x.stop();
                x.diary(0, n, 0, seen == 1);
                int many = 0;
                int[] first = {-1000, -1000};
                for (int angle = 0; angle < 12; angle++) {
                    for (int rate = -3; rate <= 3; rate++) {
                        if (((angle + n * rate) % 12 == 0) == (seen == 1)) {
                            if (many == 0) first = new int[] {angle, rate};
                            many++;
                        }
                    }
                }
                turned("seen " + seen + " behind " + n, x, many, first[0], first[1]);
            }
        }
        // ANGLE 11 and rate 3, the last of all
        TurnRing x = Checks.made("ring 0;house 0 1;sight 0 11 0 23;sight 1 8 0 23");
        x.diary(0, 0, 0, true);
        x.diary(0, 3, 1, true);
        turned("3 times the rate is 9: -1 and 3", x, 2, 11, -1);
        x.diary(0, 2, 0, false);
        x.diary(0, 4, 0, true);
        turned("4 times the rate is 0: 3", x, 1, 11, 3);
        // the HOUR of the day is n mod 24
        x = Checks.made(text);
        x.diary(0, 29, 1, true);
        turned("29 is HOUR 5: 5 times 2 is 10", x, 7, 1, 2);
        x = Checks.made(text);
        x.diary(0, 28, 1, true);
        turned("28 is not", x, 0, -1000, -1000);

        Checks.sentence("TURNED what 0: how many, 1: the ANGLE, 2: the rate of the first (-1000: there is none). -2000 for others, or without a RING.");
        x = Checks.made(text);
        x.diary(0, 0, 0, true);
        x.diary(0, 0, 0, false);
        turned("both", x, 0, -1000, -1000);
        int[] wrong = {-1, 3, 4, LEAST, MOST};
        for (int what : wrong) Stands.refused("turned " + what, y -> y.turned(what), -2000);
        for (int what = 0; what <= 2; what++) {
            int asked = what;
            Stands.refusedWithoutRing("turned " + what, y -> y.turned(asked), -2000);
        }
    }

    private static void look(String when, TurnRing x, int n, int house, int sort, int many) {
        Checks.due(when + ": look " + n + ", house", x.look(n, 0), house);
        Checks.due(when + ": look " + n + ", sort", x.look(n, 1), sort);
        Checks.due(when + ": look " + n + ", how many", x.look(n, 2), many);
    }

    private static void looks() {
        Checks.sentence("LOOK n HOURS after it: the HOUSE and the SORT by whether it is seen these part best: the greater part is fewest; of several the least HOUSE, then the least SORT; how many.");
        // of 84 each direction is faced in 7
        look("nothing to see: the least", Checks.made("ring 0;house 0 1;house 1 1"), 0, 0, 0, 84);
        look("the first SORT", Checks.made("ring 0;house 0 1;house 1 1;sight 0 5 0 23"), 0, 0, 0, 77);
        look("the SORT at one direction", Checks.made("ring 0;house 0 1;house 1 1;sight 3 5 0 23"), 0, 0, 3, 77);
        look("of two the least SORT", Checks.made("ring 0;house 0 1;sight 3 5 0 23;sight 1 6 0 23"), 99, 0, 1, 77);
        look("the SORT at two directions", Checks.made("ring 0;house 0 1;sight 3 5 0 23;sight 4 1 0 23;sight 4 7 0 23"), 50, 0, 4, 70);
        look("half", Checks.made("ring 0;house 0 1;sight 2 0 0 23;sight 2 1 0 23;sight 2 2 0 23;sight 2 3 0 23;sight 2 4 0 23;sight 2 5 0 23;sight 1 5 0 23;"
                + "sight 2 5 0 23"), 0, 0, 2, 42);
        // seven of twelve parts 49 and 35, five of twelve likewise: the least SORT
        look("49 seen, or 49 not seen", Checks.made("ring 0;house 0 1;sight 1 0 0 23;sight 1 1 0 23;sight 1 2 0 23;sight 1 3 0 23;sight 1 4 0 23;"
                + "sight 2 0 0 23;sight 2 1 0 23;sight 2 2 0 23;sight 2 3 0 23;sight 2 4 0 23;sight 2 5 0 23;sight 2 6 0 23"), 0, 0, 1, 49);
        // the ANGLE was 0: behind 1 HOUR HOUSE 0 faces 9 to 3, HOUSE 1 in SLOT 6 faces 3 to 9
        TurnRing x = Checks.made("ring 4;house 0 1;house 6 1;sight 0 0 0 0;sight 1 5 0 23;sight 1 6 0 23;sight 2 3 0 23;sight 4 4 23 23");
        x.swap(0, 1);
        x.diary(0, 0, 0, true);
        Checks.due("seven", x.turned(0), 7);
        look("the other HOUSE parts them better", x, 1, 1, 1, 5);
        look("behind 0 HOURS nothing parts them", x, 0, 0, 0, 7);
        // behind 4 HOURS HOUSE 0 faces 0, 4, 8 (SORT 2 is never seen), HOUSE 1 faces 6, 10, 2: rates -3, 0, 3 see 6
        look("behind 4", x, 4, 1, 1, 4);
        // behind 23 HOURS, in HOUR 23: HOUSE 0 faces 3 to 9 turned by 23 times the rate, which is -1 times
        look("in HOUR 23", x, 23, 1, 1, 5);
        look("in HOUR 47", x, 47, 1, 1, 5);
        look("99 is 3 times the rate: two see SORT 1, two SORT 2", x, 99, 0, 1, 5);

        Checks.sentence("LOOK n HOURS after it (0 to 99) what 0: the HOUSE, 1: the SORT, 2: how many; -2: there is none, or no HOUSES. NONE without these, or a RING.");
        x.diary(0, 0, 0, false);
        look("there is none", x, 0, -2, -2, -2);
        look("no HOUSES", Checks.made("ring 0;sight 0 0 0 23"), 99, -2, -2, -2);
        int[][] wrong = {{-1, 0}, {100, 0}, {0, -1}, {0, 3}, {99, 3}, {LEAST, 0}, {MOST, 0}, {0, LEAST}, {0, MOST}};
        for (int[] w : wrong) {
            Stands.refused("look " + w[0] + " what " + w[1], y -> y.look(w[0], w[1]), -1);
            Stands.unchanged("look " + w[0] + " what " + w[1] + " of none", Stands::houseless, y -> y.look(w[0], w[1]), -1);
        }
        for (int what = 0; what <= 2; what++) {
            int asked = what;
            Stands.refusedWithoutRing("look 0 what " + what, y -> y.look(0, asked), -1);
        }
    }

    // ---- promise 30

    private static long next(long x) {
        return (x * 1103515245L + 12345L) % 2147483648L;
    }

    private static void draws() {
        Checks.sentence("DRAWS: x (0 to 2147483647; 0 at first) becomes x * 1103515245 + 12345, of 2147483648 the rest; a DRAW is x / 65536.");
        Checks.due("0 at first", new TurnRing().count(12), 0);
        int[] seeds = {0, 1, 2, 65535, 65536, 12345, 1103515245, 1073741824, MOST - 1, MOST};
        for (int seed : seeds) {
            TurnRing x = Checks.made("ring 0;rate 0 23 4");
            x.seed(seed);
            long draw = seed;
            int turned = 0;
            for (int n = 1; n <= 12; n++) {
                draw = next(draw);
                if (draw / 65536 % 100 >= 50) turned++;
                Checks.due("seed " + seed + ": steps in " + n, x.days(1, n, 50, 1), turned);
            }
            // the least p by which it is STOPPED is one above the rest
            int first = (int) (next(seed) / 65536 % 100);
            Checks.due("seed " + seed + ": not below p", x.days(1, 1, first, 1), 1);
            Checks.due("seed " + seed + ": below p", x.days(1, 1, first + 1, 1), 0);
        }
    }

    private static void ofDaysByDraws() {
        Checks.sentence("DAYS m times (1 to 10) n HOURS (1 to 96) from now on: ahead of each a DRAW mod 100: below p (0 to 100) it is STOPPED");
        TurnRing x = Checks.made("ring 0;rate 0 23 6;rate 5 5 0;rate 6 6 3");
        for (int m = 1; m <= 10; m++) {
            Checks.due("never stopped, " + m + " times", x.days(m, 1, 0, 1), 3 * m);
            Checks.due("always stopped, " + m + " times", x.days(m, 96, 100, 1), 0);
        }
        // a DAY has 23 HOURS of three steps, on or back
        for (int n = 1; n <= 96; n++) Checks.due("never stopped, " + n + " hours", x.days(1, n, 0, 1), 3 * (n - (n + 17) / 24));
        Checks.due("the most", x.days(10, 96, 0, 1), 10 * 4 * 23 * 3);
        // ahead of each HOUR a DRAW, and on with x in the next of the m times
        long draw = 0;
        int turned = 0;
        for (int i = 0; i < 10 * 23; i++) {
            draw = next(draw);
            if (draw / 65536 % 100 >= 30 && i % 23 != 6) turned++;
        }
        Checks.due("ten times 23 HOURS", x.days(10, 23, 30, 1), 3 * turned);

        Checks.sentence("what all HOUSES LIKE behind each HOUR, steps it turned, all together (nothing stays; x as it was)");
        String text = "ring 0;house 0 1;house 6 1;sight 0 1 1 1;sight 1 7 0 23;sight 2 0 0 0;likes 0 0 5;likes 1 1 2;loathes 0 1 1;likes 0 2 9";
        // never stopped, a step an HOUR: behind HOUR 0 HOUSE 0 is at 1 (5), HOUSE 1 at 7 (2); behind HOUR 6 HOUSE 0 is at 7 (-1)
        x = Checks.made(text);
        Checks.due("behind one", x.days(1, 1, 0, 0), 7);
        Checks.due("behind six", x.days(1, 6, 0, 0), 7);
        Checks.due("behind seven", x.days(1, 7, 0, 0), 6);
        Checks.due("three times from now on", x.days(3, 7, 0, 0), 18);
        // always stopped: at 0, seen behind HOUR 23 alone
        Checks.due("stopped, behind 23", x.days(1, 23, 100, 0), 0);
        Checks.due("stopped, behind 24", x.days(1, 24, 100, 0), 9);
        Checks.due("stopped, behind 96", x.days(10, 96, 100, 0), 10 * 4 * 9);
        x.stop();
        Checks.due("stopped already: behind one", x.days(2, 1, 0, 1), 0);
        Checks.due("stopped already: in the first alone", x.days(2, 2, 0, 1), 2);
        Checks.due("stopped still", x.count(8), 1);
        Checks.due("x as it was", x.count(12), 0);
        Checks.due("how often STOP was done", x.count(9), 1);
        Stands.refused("days, by which nothing stays", y -> y.days(10, 96, 99, 1) < 0 ? 1 : 0, 0);

        Checks.sentence("DAYS what 0: how much is LIKED, 1: steps. -10000000 without these, or a RING.");
        int[][] wrong = {{0, 1, 0, 0}, {11, 1, 0, 0}, {-1, 1, 0, 0}, {1, 0, 0, 0}, {1, 97, 0, 0}, {1, -1, 0, 0}, {1, 1, -1, 0}, {1, 1, 101, 0}, {1, 1, 0, -1},
            {1, 1, 0, 2}, {LEAST, 1, 0, 0}, {MOST, 1, 0, 0}, {1, LEAST, 0, 0}, {1, MOST, 0, 0}, {1, 1, LEAST, 0}, {1, 1, MOST, 0}, {1, 1, 0, LEAST}, {1, 1, 0, MOST}};
        for (int[] w : wrong) Stands.refused("days " + w[0] + " " + w[1] + " " + w[2] + " " + w[3], y -> y.days(w[0], w[1], w[2], w[3]), -10000000);
        Stands.refusedWithoutRing("days 1 1 0 0", y -> y.days(1, 1, 0, 0), -10000000);
        Stands.refusedWithoutRing("days 1 1 0 1", y -> y.days(1, 1, 0, 1), -10000000);
        Stands.unchanged("days without HOUSES", Stands::houseless, y -> y.days(10, 96, 0, 0), 0);
        Stands.unchanged("days without HOUSES", Stands::houseless, y -> y.days(10, 96, 0, 1), 960);
    }
}
