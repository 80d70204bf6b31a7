/** Promises 1 to 5: a new object, the TAPE, and the texts of RINGS and RULES with their FAULTS. */
public final class TextTests {
    public static void main(String[] args) {
        newObject();
        tapeOfBytes();
        ringTexts();
        ringFaults();
        ringLimits();
        ringInPlace();
        ruleTexts();
        ruleFaults();
        ruleLimits();
        Checks.finish();
    }

    private static void newObject() {
        TurnRing x = new TurnRing();
        for (int what = 0; what <= 14; what++) Checks.due("new: count " + what, x.count(what), 0);
        Checks.due("new: house", x.house(0, 0), -1000);
        Checks.due("new: direction", x.direction(0, 0), -2);
        Checks.due("new: rateOf", x.rateOf(0), -1000);
        Checks.due("new: worn", x.worn(0), -1);
        Checks.due("new: hour", x.hour(), -1);
        Checks.due("new: rate", x.rate(0, 0), -1000);
        Checks.due("new: swap", x.swap(0, 1), false);
        Checks.due("new: stop", x.stop(), false);
        Checks.due("new: undo", x.undo(), -1);
        Checks.due("new: run", x.run(0, 1), -1);
        Checks.due("new: faces", x.faces(0, 0), -1);
        Checks.due("new: sees", x.sees(0, 0), -1);
        Checks.due("new: day", x.day(0), -100000);
        Checks.due("new: plan", x.plan(1, false, 0), -100000);
        Checks.due("new: errand", x.errand(0, 0, 0, 0), -1);
        Checks.due("new: stay", x.stay(0), -1);
        Checks.due("new: swings", x.swings(0), -1);
        Checks.due("new: trade", x.trade(0), -100000);
        Checks.due("new: spare", x.spare(1, 0, 0), -1);
        Checks.due("new: apart", x.apart(0, 0, 0, 0, 1), -100000);
        Checks.due("new: diary", x.diary(0, 0, 0, true), -2);
        Checks.due("new: turned", x.turned(0), -2000);
        Checks.due("new: look", x.look(0, 0), -1);
        Checks.due("new: days", x.days(1, 1, 0, 0), -10000000);
        Checks.due("new: back", x.back(0), -1);
    }

    private static void tapeOfBytes() {
        TurnRing x = new TurnRing();
        for (int n = 20; n <= 400; n += 20) Checks.due("feed", x.feed(0, 0, 0, 0, 0), n);
        Checks.due("feed beyond 400", x.feed(0, 0, 0, 0, 0), -1);
        Checks.due("tape stays", x.count(13), 400);
        Checks.due("end 401", x.end(401), -1);
        Checks.due("end 381", x.end(381), 381);
        Checks.due("381 + 20 is above 400", x.feed(0, 0, 0, 0, 0), -1);
        Checks.due("end 380", x.end(380), 380);
        Checks.due("380 + 20 is 400", x.feed(0, 0, 0, 0, 0), 400);
        Checks.due("end -1", x.end(-1), -1);
        Checks.due("end 0", x.end(0), 0);
        Checks.due("end 1 of none", x.end(1), -1);
        // "ring" " 7;h" "ouse" " 5 3" and four bytes more: the highest byte of each first
        Checks.due("feed", x.feed(0x72696e67, 0x20373b68, 0x6f757365, 0x20352033, 0xffffffff), 20);
        Checks.due("end 16", x.end(16), 16);
        Checks.due("ring of one house", x.ring(), 1);
        Checks.due("its angle", x.count(4), 7);
        Checks.due("its slot", x.house(0, 0), 5);
        Checks.due("its votes", x.house(0, 1), 3);
        Checks.due("the tape is empty then", x.count(13), 0);
        Checks.due("end 0 of none", x.end(0), 0);
        // what stands behind the end is not read: "ring 11" less a byte, "turn 10" less a byte, "turn hours" less one
        Checks.tape(x, "ring 11");
        x.end(6);
        Checks.due("ring 1", x.ring(), 0);
        Checks.due("its angle", x.count(4), 1);
        Checks.tape(x, "turn 10");
        x.end(6);
        Checks.due("turn 1", x.rule(), 0);
        Checks.due("by 1", x.run(0, 1), 2);
        Checks.tape(x, "turn hours");
        Checks.due("all of it", x.end(10), 10);
        x.end(9);
        Checks.due("turn hour", x.rule(), 1);
        Checks.due("by 1", x.run(1, 1), 3);
    }

    private static void ringTexts() {
        TurnRing x = new TurnRing();
        Checks.due("ring alone", Checks.ring(x, "ring 0"), 0);
        Checks.due("no house", x.count(0), 0);
        Checks.due("without blanks", Checks.ring(x, "ring3;house4 9;gate0"), 1);
        Checks.due("with many blanks", Checks.ring(x, "   ring   3  ;  house 4   9 ;gate   0   "), 1);
        Checks.due("digits ahead", Checks.ring(x, "ring 00011;house 00000 00009"), 1);
        Checks.due("angle", x.count(4), 11);
        Checks.due("votes", x.house(0, 1), 9);
        Checks.ring(x, "ring 1;house 2 1;likes 0 1 9;loathes 0 1 2;loathes 0 2 3;likes 0 2 4");
        Checks.due("the last of likes and loathes", x.house(0, 101), -2);
        Checks.due("the last of likes and loathes", x.house(0, 102), 4);
        Checks.due("0 without", x.house(0, 100), 0);
        Checks.ring(x, "ring 0;rate 2 5 0;rate 4 4 6");
        int[] rates = {1, 1, -3, -3, 3, -3, 1};
        for (int h = 0; h < rates.length; h++) Checks.due("rate of hour " + h, x.rateOf(h), rates[h]);
        Checks.ring(x, "ring 0;gate 11;gate 0;gate 11;sight 4 1 2 3;sight 4 1 2 3");
        Checks.due("gates", x.count(2), 1 + (1 << 11));
        Checks.due("sights alike count", x.count(1), 2);
        Checks.due("the greatest of all", Checks.ring(x, "ring 11;house 11 9;sight 4 11 23 23;sight 4 10 0 0;likes 0 4 9;gate 11;rate 23 23 6"), 1);
        Checks.due("liked", x.house(0, 4), 9);
        Checks.due("rate", x.rateOf(23), 3);
        // nothing is left of what other texts told, those with a FAULT among them
        Checks.ring(x, "ring 9;house 0 7;sight 0 0 0 23;sight 1 1 0 23;likes 0 0 7;gate 4;rate 0 23 0;x");
        Checks.ring(x, "ring 0;house 0 1");
        for (int d = 0; d < 12; d++) {
            Checks.due("no gate at " + d, x.direction(d, 1), 0);
            Checks.due("no sight at " + d, x.direction(d, 2), 0);
        }
        for (int sort = 0; sort < 5; sort++) Checks.due("no liking of " + sort, x.house(0, 100 + sort), 0);
        for (int h = 0; h < 24; h++) Checks.due("rate of " + h, x.rateOf(h), 1);
        Checks.due("no sights", x.count(1), 0);
    }

    private static void ringFault(String text, int place, int kind) {
        TurnRing x = new TurnRing();
        Checks.due("ring \"" + text + "\"", Checks.ring(x, text), Checks.fault(place, kind));
        Checks.due("no ring by \"" + text + "\"", x.rateOf(0), -1000);
    }

    private static void ringFaults() {
        ringFault("", 0, 0);
        ringFault("   ", 3, 0);
        ringFault("ring", 4, 0);
        ringFault("ring  ", 6, 0);
        ringFault("ring 12", 5, 1);
        ringFault("ring 000001", 5, 1);
        ringFault("ring x", 5, 0);
        ringFault("rings 0", 0, 0);
        ringFault("Ring 0", 0, 0);
        ringFault("7", 0, 0);
        ringFault("123456", 0, 0);
        ringFault("turn 0", 0, 0);
        ringFault("  house 0 1", 2, 4);
        ringFault("gate 0;ring 0", 0, 4);
        ringFault("ring 0;", 7, 0);
        ringFault("ring 0; ", 8, 0);
        ringFault("ring 0;;", 7, 0);
        ringFault("ring 0 0", 7, 0);
        ringFault("ring 0 123456", 7, 0);
        ringFault("ring 0,", 6, 0);
        ringFault("ring 0" + (char) 0, 6, 0);
        ringFault("ring 0" + (char) 255, 6, 0);
        ringFault("ring 0; ring 0", 8, 4);
        ringFault("ring 0;house 12 1", 13, 1);
        ringFault("ring 0;house 0 0", 15, 1);
        ringFault("ring 0;house 0 10", 15, 1);
        ringFault("ring 0;house 0", 14, 0);
        ringFault("ring 0;house 0 1;house 0 1", 23, 1);
        ringFault("ring 0;house 0 1;house 00 1", 23, 1);
        ringFault("ring 0;sight 5 0 0 0", 13, 1);
        ringFault("ring 0;sight 0 12 0 0", 15, 1);
        ringFault("ring 0;sight 0 0 24 0", 17, 1);
        ringFault("ring 0;sight 0 0 5 4", 19, 1);
        ringFault("ring 0;sight 0 0 5 24", 19, 1);
        ringFault("ring 0;sight 0 0 5", 18, 0);
        ringFault("ring 0;likes 0 0 1", 13, 1);
        ringFault("ring 0;likes 0 0 1;house 0 1", 13, 1);
        ringFault("ring 0;house 0 1;likes 1 0 1", 23, 1);
        ringFault("ring 0;house 0 1;likes 0 5 1", 25, 1);
        ringFault("ring 0;house 0 1;likes 0 0 0", 27, 1);
        ringFault("ring 0;house 0 1;loathes 0 0 10", 29, 1);
        ringFault("ring 0;gate 12", 12, 1);
        ringFault("ring 0;gate -1", 12, 0);
        ringFault("ring 0;rate 0 24 1", 14, 1);
        ringFault("ring 0;rate 24 24 1", 12, 1);
        ringFault("ring 0;rate 5 4 1", 14, 1);
        ringFault("ring 0;rate 0 0 7", 16, 1);
    }

    private static void ringLimits() {
        TurnRing x = new TurnRing();
        StringBuilder seven = new StringBuilder("ring 0");
        for (int h = 0; h < 7; h++) seven.append(";house ").append(h).append(" 1");
        Checks.due("seven houses", Checks.ring(x, seven.toString()), 7);
        ringFault(seven + ";house 7 1", seven.length() + 1, 4);
        ringFault(seven + ";houses 7 1", seven.length() + 1, 0);
        String twelve = "ring 0" + Checks.times(";sight 0 0 0 0", 12);
        Checks.due("twelve sights", Checks.ring(x, twelve), 0);
        Checks.due("twelve sights", x.count(1), 12);
        ringFault(twelve + "; sight 0 0 0 0", twelve.length() + 2, 4);
        String forty = "ring 0" + Checks.times(";gate 0", 39);
        Checks.due("forty clauses", Checks.ring(x, forty), 0);
        ringFault(forty + ";gate 0", forty.length() + 1, 4);
        ringFault(forty + ";gates 0", forty.length() + 1, 0);
        ringFault(forty + ";", forty.length() + 1, 0);
        ringFault(forty + ";7", forty.length() + 1, 0);
        StringBuilder full = new StringBuilder("ring 5");
        while (full.length() < 400) full.append(' ');
        Checks.due("four hundred bytes", Checks.ring(x, full.toString()), 0);
        ringFault(full.substring(0, 399) + "x", 399, 0);
        ringFault(full.substring(0, 399) + ";", 400, 0);
    }

    private static void ringInPlace() {
        TurnRing x = Checks.made("ring 3;house 0 1;house 1 2;gate 4", "turn 2");
        x.seed(99);
        x.run(0, 30);
        x.stop();
        x.diary(0, 1, 2, true);
        Checks.due("a fault", Checks.ring(x, "ring 99"), Checks.fault(5, 1));
        Checks.due("the tape is empty behind a fault", x.count(13), 0);
        Checks.due("houses stay", x.count(0), 2);
        Checks.due("day stays", x.count(6), 1);
        Checks.due("hour stays", x.count(5), 6);
        Checks.due("stopped stays", x.count(8), 1);
        Checks.due("diary stays", x.count(10), 1);
        Checks.due("acts stay", x.count(11), 1);
        Checks.due("another ring", Checks.ring(x, "ring 4;house 5 5"), 1);
        int[] want = {1, 0, 0, 1, 4, 0, 0, 0, 0, 0, 0, 0, 99, 0, 5};
        for (int what = 0; what <= 14; what++) Checks.due("another ring: count " + what, x.count(what), want[what]);
        for (int spoke = 0; spoke < 12; spoke++) Checks.due("nothing is worn", x.worn(spoke), 0);
        Checks.due("nothing to be undone", x.undo(), -1);
        // twice more: what stood two RINGS ago is gone too
        x.stop();
        x.run(0, 30);
        x.stop();
        x.diary(0, 1, 1, true);
        Checks.ring(x, "ring 4;house 5 5");
        Checks.due("a third ring", Checks.ring(x, "ring 4;house 5 5"), 1);
        for (int what = 0; what <= 14; what++) Checks.due("a third ring: count " + what, x.count(what), want[what]);
        for (int spoke = 0; spoke < 12; spoke++) Checks.due("nothing is worn", x.worn(spoke), 0);
    }

    private static void ruleTexts() {
        TurnRing x = new TurnRing();
        String[] texts = {"turn 1", "turn1if hour<2and day>=0;turn rate*2", " turn 0 - 1 if [ not hour = 3 or [ day < 1 ] ] ",
            "turn hour+day+angle+rate+worn+liked+best+least+stays+votes+gates+stops if 1<=1", "turn 99999 % 7 / 2"};
        for (int i = 0; i < texts.length; i++) {
            Checks.due("rule \"" + texts[i] + "\"", Checks.rule(x, texts[i]), i);
            Checks.due("the tape is empty then", x.count(13), 0);
        }
        Checks.due("a fault", Checks.rule(x, "turn"), Checks.fault(4, 0));
        Checks.due("the tape is empty behind a fault", x.count(13), 0);
        Checks.due("no rule by it", x.count(3), 5);
        Checks.due("the sixth", Checks.rule(x, "turn 3"), 5);
        Checks.tape(x, "turn 4");
        Checks.due("a seventh", x.rule(), -1);
        Checks.due("the tape stays", x.count(13), 6);
        Checks.tape(x, "turn");
        Checks.due("a seventh with a fault", x.rule(), -1);
        Checks.due("six", x.count(3), 6);
        Checks.ring(x, "ring 0");
        Checks.due("rules stay with another ring", x.count(3), 6);
    }

    private static void ruleFault(String text, int place, int kind) {
        TurnRing x = new TurnRing();
        Checks.due("rule \"" + text + "\"", Checks.rule(x, text), Checks.fault(place, kind));
        Checks.due("no rule by \"" + text + "\"", x.count(3), 0);
    }

    private static void ruleFaults() {
        ruleFault("", 0, 0);
        ruleFault("ring 0", 0, 0);
        ruleFault("turn", 4, 0);
        ruleFault("turns 1", 0, 0);
        ruleFault("turnz 1", 0, 0);
        ruleFault("turn turn", 5, 0);
        ruleFault("turn x", 5, 0);
        ruleFault("turn if", 5, 0);
        ruleFault("turn not", 5, 0);
        ruleFault("turn [1]", 5, 0);
        ruleFault("turn -1", 5, 0);
        ruleFault("turn 1;", 7, 0);
        ruleFault("turn 1 ; x", 9, 0);
        ruleFault("turn 1 2", 7, 0);
        ruleFault("turn 1 and", 7, 0);
        ruleFault("turn 1 < 2", 7, 0);
        ruleFault("turn 123456", 5, 1);
        ruleFault("turn 1 + 000001", 9, 1);
        ruleFault("turn 5 %", 8, 0);
        ruleFault("turn 5 + * 2", 9, 0);
        ruleFault("turn hours", 5, 0);
        ruleFault("turn 1 if", 9, 0);
        ruleFault("turn 1 iff 1 = 1", 7, 0);
        ruleFault("turn 1 if hour", 14, 0);
        ruleFault("turn 1 if hour ;", 15, 0);
        ruleFault("turn 1 if best = 1]", 18, 0);
        ruleFault("turn 1 if best = ", 17, 0);
        ruleFault("turn 1 if best == 1", 16, 0);
        ruleFault("turn 1 if best < = 1", 17, 0);
        ruleFault("turn 1 if best =< 1", 16, 0);
        ruleFault("turn 1 if best <> 1", 16, 0);
        ruleFault("turn 1 if [best = 1", 19, 0);
        ruleFault("turn 1 if [best = 1;", 19, 0);
        ruleFault("turn 1 if [best] = 1", 15, 0);
        ruleFault("turn 1 if 1 = 1 and", 19, 0);
        ruleFault("turn 1 if 1 = 1 or;", 18, 0);
        ruleFault("turn 1 if 1 = 1 not 1 = 1", 16, 0);
        ruleFault("turn 1 if 1 = 1 = 1", 16, 0);
        ruleFault("turn 1 if 1 = 1 if 1 = 1", 16, 0);
        ruleFault("turn 1 if not and", 14, 0);
        ruleFault("turn 1 if nots = 1", 10, 0);
    }

    private static void ruleLimits() {
        TurnRing x = new TurnRing();
        String ten = "turn 1 if " + Checks.times("[", 10) + "1=1" + Checks.times("]", 10);
        Checks.due("ten deep", Checks.rule(x, ten), 0);
        ruleFault("turn 1 if " + Checks.times("[", 11) + "1=1" + Checks.times("]", 11), 20, 2);
        Checks.due("ten nots", Checks.rule(x, "turn 1 if " + Checks.times("not ", 10) + "1=1"), 1);
        ruleFault("turn 1 if " + Checks.times("not ", 11) + "1=1", 50, 2);
        ruleFault("turn 1 if " + Checks.times("not[", 5) + "[1=1", 30, 2);
        ruleFault("turn 1 if " + Checks.times("not[", 5) + "not 1=1", 30, 2);
        ruleFault("turn 1 if " + Checks.times("[", 10) + "nots=1", 20, 0);
        Checks.due("ten deep again and again", Checks.rule(x, ten + ";" + ten + " and not 1=1 or [[1=1]]"), 2);

        String sixty = "turn 1" + Checks.times("+1", 59);
        Checks.due("sixty values", Checks.rule(x, sixty), 3);
        ruleFault(sixty + " + 1", sixty.length() + 3, 3);
        ruleFault(sixty + "+ hour", sixty.length() + 2, 3);
        ruleFault(sixty + "+hours", sixty.length() + 1, 0);
        ruleFault(sixty + "+123456", sixty.length() + 1, 1);
        ruleFault(sixty + ";turn 1", sixty.length() + 6, 3);
        ruleFault(sixty + "+", sixty.length() + 1, 0);
        // 58 values, one more and its SIGN make 60
        String facts = "turn 1" + Checks.times("+1", 57) + " if 1";
        ruleFault(facts + " = 1", facts.length() + 3, 3);
        ruleFault("turn 1" + Checks.times("+1", 58) + " if 1 <= 1", 5 + 59 * 2 - 1 + 4 + 2, 3);
        Checks.due("a fact of 3 and 57", Checks.rule(x, "turn 1" + Checks.times("+1", 56) + " if 1 = 1"), 4);

        String twelve = "turn 1" + Checks.times(";turn 1", 11);
        Checks.due("twelve clauses", Checks.rule(x, twelve), 5);
        ruleFault(twelve + "; turn 1", twelve.length() + 2, 4);
        ruleFault(twelve + ";turns 1", twelve.length() + 1, 0);
        ruleFault(twelve + ";", twelve.length() + 1, 0);
    }
}
