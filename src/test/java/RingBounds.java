/** The bounds of the TAPE and of the texts of RINGS, sentence by sentence: promises 1 to 4 and Terms I. */
public final class RingBounds {
    private static final int LEAST = Integer.MIN_VALUE;
    private static final int MOST = Integer.MAX_VALUE;

    public static void main(String[] args) {
        newObject();
        tapeGrows();
        tapeIsCut();
        textAndClauses();
        ringClause();
        houseClause();
        sightClause();
        likesAndLoathes();
        gateClause();
        rateClause();
        housesAndSights();
        numbers();
        wordsAndBlanks();
        endsAndBytes();
        badNumbersAndClauses();
        severalFaults();
        ringTakesPlace();
        Checks.finish();
    }

    private static void fault(String marked, int kind) {
        Stands.fault(marked, kind, Checks::ring);
    }

    /** A text that is taken: the object that was told it. */
    private static TurnRing told(String text, int houses) {
        TurnRing x = new TurnRing();
        Checks.due("ring \"" + text + "\"", Checks.ring(x, text), houses);
        return x;
    }

    private static void newObject() {
        Checks.sentence("The constants: `NONE = -1`: None.");
        Checks.due("NONE", TurnRing.NONE, -1);

        Checks.sentence("No RING, no RULES.");
        TurnRing x = new TurnRing();
        for (int what = 0; what <= 14; what++) Checks.due("new: count " + what, x.count(what), 0);
        Checks.due("no RING", x.rateOf(0), -1000);
        Checks.due("no HOUSE", x.house(0, 0), -1000);
        for (int k = 0; k < 4; k++) Checks.due("no IMAGE " + k, x.back(k), -1);
        Checks.due("nothing to be undone", x.undo(), -1);
        Checks.due("the first RULE", Checks.rule(x, "turn 1"), 0);
        Checks.due("by which nothing turns without a RING", x.run(0, 1), -1);
    }

    // ---- promises 2 and 3

    private static void tapeGrows() {
        Checks.sentence("Twenty bytes come behind the TAPE, of each number the highest first: how many it has");
        TurnRing x = new TurnRing();
        // "ring 9;house 11 8;  " and "gate 7" with blanks
        Checks.due("feed", x.feed(0x72696e67, 0x20393b68, 0x6f757365, 0x20313120, 0x383b2020), 20);
        Checks.due("feed", x.feed(0x67617465, 0x20372020, 0x20202020, 0x20202020, 0x20202020), 40);
        Checks.due("bytes of the TAPE", x.count(13), 40);
        Checks.due("ring", x.ring(), 1);
        Checks.due("angle", x.count(4), 9);
        Checks.due("slot", x.house(0, 0), 11);
        Checks.due("votes", x.house(0, 1), 8);
        Checks.due("gates", x.count(2), 1 << 7);
        Checks.due("each of the twenty comes", x.feed(0x72696e67, 0x20313b67, 0x61746520, 0x343b6761, 0x74652038), 20);
        Checks.due("ring", x.ring(), 0);
        Checks.due("gates", x.count(2), (1 << 4) + (1 << 8));
        Checks.due("bytes above 127", x.feed(0xffffffff, 0x80808080, LEAST, MOST, -1), 20);
        Checks.due("no byte of these can stand", x.ring(), Checks.fault(0, 0));

        Checks.sentence("NONE, and none comes, if it would have more than 400");
        x = new TurnRing();
        for (int n = 20; n <= 400; n += 20) Checks.due("feed", x.feed(0x20202020, 0x20202020, 0x20202020, 0x20202020, 0x20202020), n);
        Checks.due("400 and 20", x.feed(0, 0, 0, 0, 0), -1);
        Checks.due("end", x.end(381), 381);
        Checks.due("381 and 20", x.feed(0, 0, 0, 0, 0), -1);
        Checks.due("end", x.end(380), 380);
        Checks.due("380 and 20", x.feed(0x72696e67, 0x20373b20, 0x20202020, 0x20202020, 0x67617465), 400);
        Checks.due("none of the others came", x.ring(), Checks.fault(400, 0));
        String full = "ring 5" + Checks.times(" ", 386) + ";gate 11";
        int[] lengths = {400, 399, 381};
        for (int length : lengths) {
            Stands.unchanged("feed on " + length, () -> {
                TurnRing y = Stands.emptyTape();
                Checks.tape(y, full);
                y.end(length);
                return y;
            }, y -> y.feed(0x72696e67, 0x20303b20, 0, 0, 0), -1);
        }
    }

    private static void tapeIsCut() {
        Checks.sentence("The TAPE has its first n bytes alone: n");
        TurnRing x = new TurnRing();
        Checks.due("none of none", x.end(0), 0);
        Checks.tape(x, "ring 11");
        Checks.due("all it has", x.end(7), 7);
        Checks.due("one less", x.end(6), 6);
        Checks.due("bytes of the TAPE", x.count(13), 6);
        Checks.due("what is cut is gone", x.end(7), -1);
        Checks.due("ring 1", x.ring(), 0);
        Checks.due("its angle", x.count(4), 1);
        Checks.tape(x, "ring");
        Checks.due("twenty more behind its four", x.feed(0x20373b67, 0x61746520, 0x332e2e2e, 0, 0), 24);
        Checks.due("end", x.end(13), 13);
        Checks.due("ring 7;gate 3", x.ring(), 0);
        Checks.due("its angle", x.count(4), 7);
        Checks.due("its gate", x.count(2), 1 << 3);
        Checks.tape(x, "ring 7");
        Checks.due("none", x.end(0), 0);
        Checks.due("bytes of the TAPE", x.count(13), 0);
        Checks.due("nothing is told", x.ring(), Checks.fault(0, 0));

        Checks.sentence("NONE, and nothing happens, if it has not so many, or n is below 0");
        int[] wrong = {17, 18, 400, 401, MOST, -1, -16, LEAST};
        for (int n : wrong) Stands.refused("end " + n + " of 16", x1 -> x1.end(n), -1);
        int[] ofNone = {1, 20, -1};
        for (int n : ofNone) Stands.unchanged("end " + n + " of none", Stands::emptyTape, x1 -> x1.end(n), -1);
        Stands.unchanged("end 401 of 400", () -> {
            TurnRing y = Stands.emptyTape();
            Checks.tape(y, Checks.times(" ", 394) + "ring 5");
            return y;
        }, y -> y.end(401), -1);
    }

    // ---- Terms: the language of RINGS

    private static void textAndClauses() {
        Checks.sentence("A RING is a text of at most 400 bytes");
        String blanks = Checks.times(" ", 386);
        Checks.due("400 bytes, the last one with them", told("ring 5" + blanks + ";gate 11", 0).count(2), 1 << 11);
        Checks.due("399 bytes", told("ring 5" + blanks + ";gate 1", 0).count(2), 1 << 1);
        fault("ring 5" + blanks + ";gate 1^.", 0);
        fault("ring 5" + blanks + ";gate ^12", 1);
        fault("ring 5" + Checks.times(" ", 393) + ";^", 0);
        fault(Checks.times(" ", 400) + "^", 0);

        Checks.sentence("CLAUSE { ; CLAUSE }, 40 at most");
        fault("^", 0);
        fault("   ^", 0);
        told("ring 0", 0);
        told("ring 0" + Checks.times(";gate 0", 38), 0);
        String forty = "ring 0" + Checks.times(";gate 0", 38);
        Checks.due("the 40th with them", told(forty + ";gate 9", 0).count(2), 1 + (1 << 9));
        fault(forty + ";gate 9;^gate 8", 4);
        fault(forty + ";gate 9;  ^rate 0 0 0", 4);
        fault(forty + ";gate 9;^ring 0", 4);
        fault("ring 0;^", 0);
        fault("ring 0;^;gate 0", 0);
        fault("^;ring 0", 0);
        fault("ring 0 ^gate 0", 0);
    }

    private static void ringClause() {
        Checks.sentence("ring NUMBER (ANGLE at first, 0 to 11; once, the first CLAUSE)");
        for (int angle = 0; angle < 12; angle++) Checks.due("angle", told("ring " + angle, 0).count(4), angle);
        fault("ring ^12", 1);
        fault("ring ^99999", 1);
        fault("ring^", 0);
        fault("ring 0 ^0", 0);
        fault("ring 0;^ring 0", 4);
        fault("ring 0;gate 0;^ring 1", 4);
        fault("^house 0 1", 4);
        fault("^sight 0 0 0 0", 4);
        fault("^likes 0 0 1", 4);
        fault("^loathes 0 0 1", 4);
        fault("^gate 0;ring 0", 4);
        fault("  ^rate 0 0 0", 4);
    }

    private static void houseClause() {
        Checks.sentence("house NUMBER NUMBER (a SLOT 0 to 11 that no other one told has; VOTES 1 to 9)");
        for (int slot = 0; slot < 12; slot++) Checks.due("slot", told("ring 0;house " + slot + " 1", 1).house(0, 0), slot);
        for (int votes = 1; votes <= 9; votes++) Checks.due("votes", told("ring 0;house 0 " + votes, 1).house(0, 1), votes);
        fault("ring 0;house ^12 1", 1);
        fault("ring 0;house 0 ^0", 1);
        fault("ring 0;house 0 ^10", 1);
        fault("ring 0;house^", 0);
        fault("ring 0;house 0^", 0);
        fault("ring 0;house 0 1 ^1", 0);
        fault("ring 0;house 0 1;house ^0 1", 1);
        fault("ring 0;house 11 1;house ^11 2", 1);
        fault("ring 0;house 3 1;house 4 1;house ^3 1", 1);
        fault("ring 0;house 3 1;house 4 1;house ^4 1", 1);
        fault("ring 0;house 3 1;house ^0003 1", 1);
        fault("ring 0;house 0 1;house 1 1;house 2 1;house 3 1;house 4 1;house 5 1;house ^5 1", 1);
        told("ring 0;house 3 1;house 2 1;house 4 1", 3);
        // the SLOTS of a RING that stood there, or of a text that was refused, are free
        TurnRing x = told("ring 0;house 3 1", 1);
        Checks.due("refused", Checks.ring(x, "ring 0;house 5 1;x"), Checks.fault(17, 0));
        Checks.due("the slots of others", Checks.ring(x, "ring 0;house 3 1;house 5 1"), 2);
    }

    private static void sightClause() {
        Checks.sentence("sight NUMBER NUMBER NUMBER NUMBER (a SORT 0 to 4, a direction 0 to 11, the first, the last HOUR, 0 to 23, not below the first)");
        for (int sort = 0; sort < 5; sort++) Checks.due("sort", told("ring 0;sight " + sort + " 3 0 0", 0).direction(3, 2), 1 << sort);
        for (int d = 0; d < 12; d++) {
            TurnRing x = told("ring 0;sight 4 " + d + " 0 0", 0);
            for (int e = 0; e < 12; e++) Checks.due("sight at " + d + " seen at " + e, x.direction(e, 2), d == e ? 16 : 0);
        }
        fault("ring 0;sight ^5 0 0 0", 1);
        fault("ring 0;sight 0 ^12 0 0", 1);
        fault("ring 0;sight 0 0 ^24 24", 1);
        fault("ring 0;sight 0 0 0 ^24", 1);
        fault("ring 0;sight 0 0 23 ^24", 1);
        fault("ring 0;sight 0 0 23 ^22", 1);
        fault("ring 0;sight 0 0 1 ^0", 1);
        fault("ring 0;sight^", 0);
        fault("ring 0;sight 0^", 0);
        fault("ring 0;sight 0 0^", 0);
        fault("ring 0;sight 0 0 0^", 0);
        fault("ring 0;sight 0 0 0 0 ^0", 0);
        int[][] spans = {{0, 0}, {0, 23}, {23, 23}, {7, 7}, {7, 8}, {22, 23}};
        for (int[] s : spans) {
            TurnRing x = told("ring 0;sight 2 5 " + s[0] + " " + s[1], 0);
            for (int h = 0; h < 24; h++) {
                Checks.due("sight of hours " + s[0] + " to " + s[1] + " in " + h, x.direction(5, 2), s[0] <= h && h <= s[1] ? 4 : 0);
                x.hour();
            }
        }
    }

    private static void likesAndLoathes() {
        Checks.sentence("likes NUMBER NUMBER NUMBER (a HOUSE that was told, a SORT, 1 to 9; of the same the last of likes and loathes, 0 without)");
        String two = "ring 0;house 3 1;house 4 1;";
        TurnRing x = told(two + "likes 0 0 1;likes 1 4 9", 2);
        int[] want = {1, 0, 0, 0, 0, 0, 0, 0, 0, 9};
        for (int i = 0; i < 10; i++) Checks.due("house " + i / 5 + " likes " + i % 5, x.house(i / 5, 100 + i % 5), want[i]);
        for (int much = 1; much <= 9; much++) Checks.due("likes", told(two + "likes 0 2 " + much, 2).house(0, 102), much);
        fault(two + "likes ^2 0 1", 1);
        fault("ring 0;likes ^0 0 1", 1);
        fault("ring 0;likes ^0 0 1;house 0 1", 1);
        fault(two + "likes 0 ^5 1", 1);
        fault(two + "likes 0 0 ^0", 1);
        fault(two + "likes 0 0 ^10", 1);
        fault(two + "likes^", 0);
        fault(two + "likes 0^", 0);
        fault(two + "likes 0 0^", 0);
        fault(two + "likes 0 0 1 ^1", 0);
        Checks.due("the last", told(two + "likes 0 0 1;likes 0 0 7", 2).house(0, 100), 7);
        Checks.due("the last", told(two + "loathes 0 0 9;likes 0 0 1", 2).house(0, 100), 1);
        String seven = "ring 0";
        for (int h = 0; h < 7; h++) seven += ";house " + h + " 1";
        Checks.due("the last HOUSE of all", told(seven + ";likes 6 4 9", 7).house(6, 104), 9);
        fault(seven + ";likes ^7 4 9", 1);

        Checks.sentence("loathes NUMBER NUMBER NUMBER (likewise, less than 0 then)");
        for (int much = 1; much <= 9; much++) Checks.due("loathes", told(two + "loathes 1 4 " + much, 2).house(1, 104), -much);
        Checks.due("the last", told(two + "likes 0 0 9;loathes 0 0 1", 2).house(0, 100), -1);
        Checks.due("of the same alone", told(two + "likes 0 0 9;loathes 0 1 1;loathes 1 0 1", 2).house(0, 100), 9);
        fault(two + "loathes ^2 0 1", 1);
        fault("ring 0;loathes ^0 0 1", 1);
        fault(two + "loathes 0 ^5 1", 1);
        fault(two + "loathes 0 0 ^0", 1);
        fault(two + "loathes 0 0 ^10", 1);
        fault(two + "loathes^", 0);
        fault(two + "loathes 0^", 0);
        fault(two + "loathes 0 0^", 0);
        fault(two + "loathes 0 0 1 ^1", 0);
    }

    private static void gateClause() {
        Checks.sentence("gate NUMBER (a direction)");
        for (int d = 0; d < 12; d++) Checks.due("gate", told("ring 0;gate " + d, 0).count(2), 1 << d);
        Checks.due("none", told("ring 0", 0).count(2), 0);
        Checks.due("the same twice", told("ring 0;gate 5;gate 5", 0).count(2), 1 << 5);
        String all = "ring 0";
        for (int d = 0; d < 12; d++) all += ";gate " + d;
        Checks.due("all", told(all, 0).count(2), 4095);
        fault("ring 0;gate ^12", 1);
        fault("ring 0;gate^", 0);
        fault("ring 0;gate 0 ^1", 0);
    }

    private static void rateClause() {
        Checks.sentence("rate NUMBER NUMBER NUMBER (the first, the last HOUR, not below the first; 0 to 6: 3 more than by how much it turns; of an HOUR the last told, 4 without)");
        int[][] spans = {{0, 0}, {0, 23}, {23, 23}, {7, 7}, {7, 8}};
        for (int[] s : spans) {
            for (int told = 0; told <= 6; told++) {
                TurnRing x = told("ring 0;rate " + s[0] + " " + s[1] + " " + told, 0);
                for (int h = 0; h < 24; h++) Checks.due("rate of " + h, x.rateOf(h), s[0] <= h && h <= s[1] ? told - 3 : 1);
            }
        }
        fault("ring 0;rate ^24 24 0", 1);
        fault("ring 0;rate 0 ^24 0", 1);
        fault("ring 0;rate 23 ^24 0", 1);
        fault("ring 0;rate 23 ^22 0", 1);
        fault("ring 0;rate 1 ^0 0", 1);
        fault("ring 0;rate 0 0 ^7", 1);
        fault("ring 0;rate^", 0);
        fault("ring 0;rate 0^", 0);
        fault("ring 0;rate 0 0^", 0);
        fault("ring 0;rate 0 0 0 ^0", 0);
        TurnRing x = told("ring 0;rate 0 23 6;rate 3 5 0;rate 5 6 2", 0);
        int[] want = {3, 3, 3, -3, -3, -1, -1, 3};
        for (int h = 0; h < want.length; h++) Checks.due("the last told of " + h, x.rateOf(h), want[h]);
    }

    private static void housesAndSights() {
        Checks.sentence("HOUSES 0 to 6, SIGHTS 0 to 11, in the order told.");
        String seven = "ring 0";
        for (int h = 0; h < 7; h++) seven += ";house " + (11 - h) + " " + (h + 1);
        TurnRing x = told(seven, 7);
        for (int h = 0; h < 7; h++) {
            Checks.due("slot of " + h, x.house(h, 0), 11 - h);
            Checks.due("votes of " + h, x.house(h, 1), h + 1);
        }
        Checks.due("there is no eighth", x.house(7, 0), -1000);
        fault(seven + ";^house 0 1", 4);
        fault(seven + ";  ^house", 4);
        told(seven + ";gate 0", 7);
        String twelve = "ring 0";
        for (int i = 0; i < 12; i++) twelve += ";sight " + i % 5 + " " + i + " 0 0";
        x = told(twelve, 0);
        Checks.due("sights", x.count(1), 12);
        for (int d = 0; d < 12; d++) Checks.due("seen at " + d, x.direction(d, 2), 1 << d % 5);
        fault(twelve + ";^sight 0 0 0 0", 4);
        fault(twelve + "; ^sight x", 4);
        told(twelve + ";house 0 1", 1);
        Checks.due("sights alike are two", told("ring 0;sight 0 0 0 0;sight 0 0 0 0", 0).count(1), 2);

        Checks.sentence("It is DAY 0, HOUR 0; nothing is worn.");
        x = told("ring 7;rate 0 23 6;gate 1", 0);
        Checks.due("DAY", x.count(6), 0);
        Checks.due("HOUR", x.count(5), 0);
        for (int spoke = 0; spoke < 12; spoke++) Checks.due("worn " + spoke, x.worn(spoke), 0);
    }

    private static void numbers() {
        Checks.sentence("NUMBER (1 to 5 digits, as far as digits go on)");
        Checks.due("one digit", told("ring 7", 0).count(4), 7);
        Checks.due("five digits", told("ring 00011", 0).count(4), 11);
        fault("ring ^000011", 1);
        fault("ring ^000000000000000000000000000000000000000000000000000000000001", 1);
        fault("ring ^4294967296", 1);
        fault("ring ^18446744073709551617", 1);
        fault("ring 1 ^1", 0);
        fault("ring 0;house 0^", 0);
        fault("ring 0;house 0 1;likes 0 0 ^000001", 1);
        fault("ring 0;gate ^000000", 1);
        fault("ring 1^.5", 0);
    }

    private static void wordsAndBlanks() {
        Checks.sentence("WORDS (small letters, as far as these go on)");
        String[] clauses = {"house", "sight", "likes", "loathes", "gate", "rate"};
        for (String c : clauses) {
            fault("ring 0;^" + c.substring(0, c.length() - 1) + " 0 1 1 1", 0);
            fault("ring 0;^" + c + "s 0 1 1 1", 0);
            fault("ring 0;^" + c.substring(0, 1).toUpperCase() + c.substring(1) + " 0 1 1 1", 0);
            fault("ring 0;^" + c.substring(1) + " 0 1 1 1", 0);
            fault("ring 0;^" + c + c + " 0 1 1 1", 0);
        }
        fault("^rin 0", 0);
        fault("^ringz 0", 0);
        fault("^ringa 0", 0);
        fault("ring 0;" + Checks.times(" ", 389) + "^gat", 0);
        fault("ring 0;" + Checks.times(" ", 389) + "gate^", 0);
        fault("^rings 0", 0);
        fault("^r ing 0", 0);
        fault("^ringhouse 0", 0);
        fault("^turn 0", 0);
        fault("ring ^o", 0);
        fault("ring 0;gate ^gate", 0);

        Checks.sentence("Blanks (32) stand between as one likes.");
        Checks.due("none", told("ring11;house0 9;sight4 3 2 23;likes0 4 9;gate3;rate0 1 0", 1).count(4), 11);
        Checks.due("many", told("   ring   11   ;   house   0   9   ;   gate   3   ", 1).count(4), 11);
        int[] others = {0, 9, 10, 13, 31, 33, 95, 160, 255};
        for (int c : others) {
            fault("ring^" + (char) c + "0", 0);
            fault("ring 0^" + (char) c, 0);
            fault("^" + (char) c + "ring 0", 0);
            fault("ring 0;^" + (char) c + "gate 0", 0);
        }
        fault("ring 1 ^1;gate 0", 0);
        fault("ring 0;^ga te 0", 0);
    }

    private static void endsAndBytes() {
        Checks.sentence("0 a byte or WORD that can't stand there, or the end (behind the last byte)");
        fault("ring 0;house 0 1^,", 0);
        fault("ring ^-1", 0);
        fault("ring ^+1", 0);
        fault("ring ^;", 0);
        fault("ring ^/", 0);
        fault("ring ^:", 0);
        fault("ring 5^/", 0);
        fault("ring 5^:", 0);
        fault("ring^`5", 0);
        fault("ring^{5", 0);
        fault("ring^[5", 0);
        fault("ring^@5", 0);
        fault("^7", 0);
        fault("^123456", 0);
        fault("^[ring 0]", 0);
        fault("ring 0 ^123456", 0);
        fault("ring 0 ^ring", 0);
        fault("ring   ^", 0);
        fault("ring 0;  ^", 0);
        fault("ring 0; gate   ^", 0);
        fault("ring 0;house 0  ^;", 0);
        fault("ring 0;house ^x 1", 0);
        fault("ring 0;sight 0 0 0 ^;", 0);
        for (int c = 0; c < 256; c++) {
            boolean mayStand = c == ' ' || c == ';' || c >= '0' && c <= '9' || c == '^';
            if (!mayStand) fault("ring 3^" + (char) c, 0);
        }
        fault("ring 3;^x", 0);
    }

    private static void badNumbersAndClauses() {
        Checks.sentence("1 a NUMBER of more digits, or not as told (a SLOT that is taken)");
        fault("ring   ^000000", 1);
        fault("ring   ^12", 1);
        fault("ring 0;house 7 1;house 8 1;house ^7 1", 1);
        fault("ring 0;house 7 1;house ^7 10", 1);
        fault("ring 0;house 7 1;house ^7", 1);
        fault("ring 0;house 7 1;house 8 ^0", 1);
        fault("ring 0;house 7 ^000001", 1);

        Checks.sentence("4 one CLAUSE too many, a second ring, another CLAUSE ahead of it, an eighth HOUSE, a 13th SIGHT (at its first byte)");
        fault("ring 0" + Checks.times(";gate 0", 39) + "; ^gate 0", 4);
        fault("ring 0; ^ring 0", 4);
        fault(" ^gate 0;ring 0", 4);
        String seven = "ring 0;house 0 1;house 1 1;house 2 1;house 3 1;house 4 1;house 5 1;house 6 1";
        fault(seven + "; ^house 7 1", 4);
        fault(seven + "; ^house 0 1", 4);
        fault("ring 0" + Checks.times(";sight 0 0 0 0", 12) + "; ^sight 0 0 0 0", 4);
    }

    private static void severalFaults() {
        Checks.sentence("FAULTS, the first along the text, 1 + 8 * its place and:");
        fault("ring ^12;house 12 1", 1);
        fault("ring 0;^houses ;ring 0", 0);
        fault("ring 0;gate ^;x", 0);
        fault("ring 0;house ^12 10", 1);
        fault("ring 0;house 0 ^10;ring 0", 1);
        fault("ring 0;sight ^5 12 24 24", 1);
        fault("ring 0;sight 4 ^12 24 24", 1);
        fault("ring 0;sight 4 11 ^24 25", 1);
        fault("ring 0;likes ^0 5 0", 1);
        fault("ring 0;house 0 1;likes 0 ^5 0", 1);
        fault("ring 0;rate ^24 25 7", 1);
        fault("ring 0;rate 5 ^4 7", 1);
        fault("^gate 12", 4);
        fault("ring 0;^ring 12", 4);
        Checks.due("place 0, kind 0", Checks.ring(new TurnRing(), "x"), -3);
        Checks.due("place 5, kind 1", Checks.ring(new TurnRing(), "ring 12"), -2 - 42);
        Checks.due("place 0, kind 4", Checks.ring(new TurnRing(), "gate 0"), -2 - 5);

        Checks.sentence("Of one place the least.");
        String forty = "ring 0" + Checks.times(";gate 0", 39);
        fault(forty + ";^gates 0", 0);
        fault(forty + ";^", 0);
        fault(forty + ";^;", 0);
        fault(forty + ";^7", 0);
        fault("^houses 0 1", 0);
        fault("ring 0;^rings 0", 0);
        fault("ring 0 ^000001", 0);
        fault("ring 0;house ^;", 0);
    }

    // ---- promise 4

    private static void ringTakesPlace() {
        Checks.sentence("The TAPE, which is empty then, is the RING in place of the one there was");
        TurnRing x = Stands.rich();
        Checks.due("ring", x.ring(), 1);
        Checks.due("the TAPE", x.count(13), 0);
        Checks.due("angle", x.count(4), 4);
        Checks.due("houses", x.count(0), 1);
        Checks.due("sights", x.count(1), 0);
        Checks.due("gates", x.count(2), 0);
        Checks.due("votes", x.count(14), 1);
        Checks.due("slot", x.house(0, 0), 1);
        for (int sort = 0; sort < 5; sort++) Checks.due("likes " + sort, x.house(0, 100 + sort), 0);
        for (int d = 0; d < 12; d++) Checks.due("seen at " + d, x.direction(d, 2), 0);
        for (int h = 0; h < 24; h++) Checks.due("rate of " + h, x.rateOf(h), 1);
        Checks.due("no HOUSE of the one before", x.house(1, 0), -1000);
        Checks.due("a second time there is no text", x.ring(), Checks.fault(0, 0));
        Checks.due("angle", x.count(4), 4);

        Checks.sentence("(DAY 0, HOUR 0, no DIARY, nothing to be UNDONE; x stays)");
        x = Stands.rich();
        x.stop();
        x.undo();
        x.run(0, 30);
        x.hour();
        x.stop();
        Checks.due("ring", x.ring(), 1);
        int[] want = {1, 0, 0, 2, 4, 0, 0, 0, 0, 0, 0, 0, 77, 0, 1};
        for (int what = 0; what <= 14; what++) Checks.due("count " + what, x.count(what), want[what]);
        for (int spoke = 0; spoke < 12; spoke++) Checks.due("worn " + spoke, x.worn(spoke), 0);
        Checks.due("nothing to be undone", x.undo(), -1);
        Checks.due("all turns are possible", x.turned(0), 84);
        Checks.due("not stopped: it turns", x.hour(), 5);
        Checks.due("one act from here on", x.undo(), 0);
        Checks.due("none", x.undo(), -1);
        Checks.due("IMAGES stay", x.back(3), 0);
        Checks.due("its houses", x.count(0), 3);
        // nor is anything left of the one ahead of the one there was, or of a text that was refused
        String[] between = {"ring 1", "ring 9;house 0 7;sight 1 1 0 23;house 1 1;likes 0 1 7;gate 5;rate 0 23 0;x"};
        for (String text : between) {
            x = Stands.rich();
            x.run(0, 30);
            x.stop();
            x.diary(0, 1, 1, true);
            Checks.ring(x, text);
            Checks.due("ring", Checks.ring(x, "ring 4;house 1 1"), 1);
            for (int what = 0; what <= 14; what++) Checks.due("behind another: count " + what, x.count(what), want[what]);
            for (int spoke = 0; spoke < 12; spoke++) Checks.due("behind another: worn " + spoke, x.worn(spoke), 0);
            for (int sort = 0; sort < 5; sort++) Checks.due("behind another: likes " + sort, x.house(0, 100 + sort), 0);
            for (int d = 0; d < 12; d++) Checks.due("behind another: seen at " + d, x.direction(d, 2), 0);
            for (int h = 0; h < 24; h++) Checks.due("behind another: rate of " + h, x.rateOf(h), 1);
        }

        Checks.sentence("how many HOUSES");
        String more = "ring 0";
        for (int n = 0; n <= 7; n++) {
            told(more, n);
            more += ";house " + n + " 1";
        }

        Checks.sentence("-2 - its FAULT, and all stays");
        fault("ring 4;house 1 1;^x", 0);
        fault("ring 4;house 1 1;house ^1 1", 1);
        Stands.unchanged("without a ring", () -> {
            TurnRing y = Stands.ringless();
            y.end(0);
            return y;
        }, y -> Checks.ring(y, "ring 4;house 1 1;x"), Checks.fault(17, 0));
    }
}
