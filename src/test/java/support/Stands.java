import java.util.function.Supplier;

/** An object in which all stands that a call could spoil, and calls by which nothing of it may change. */
final class Stands {
    /** ANGLE 10: HOUSE 0 faces 10, HOUSE 1 faces 4, HOUSE 2 faces 1. */
    static final String RING = "ring 10;house 0 2;house 6 1;house 3 3;sight 0 11 0 23;sight 1 5 6 12;sight 0 1 1 3;"
            + "sight 2 10 0 0;likes 0 0 4;loathes 1 1 5;likes 1 0 1;likes 2 2 3;gate 10;gate 4;rate 5 7 3";

    interface Call {
        long on(TurnRing x);
    }

    interface Teller {
        int tell(TurnRing x, String text);
    }

    private Stands() { }

    /** STOPPED, worn, with DIARY, five ACTS, two RULES, IMAGES 1 and 3, and a RING's text of 16 bytes on the TAPE. */
    static TurnRing rich() {
        TurnRing x = emptyTape();
        Checks.tape(x, "ring 4;house 1 1");
        return x;
    }

    static TurnRing emptyTape() {
        TurnRing x = Checks.made(RING, "turn 0 - 1 if hour < 2;turn rate * 2", "turn worn + 1");
        x.seed(77);
        x.image(1);
        x.run(0, 7);
        x.diary(0, 0, 2, true);
        x.diary(2, 24, 0, false);
        x.image(3);
        x.hour();
        x.rate(9, -2);
        x.swap(0, 2);
        x.hour();
        x.stop();
        return x;
    }

    /** The same with no RING, but with a RULE, x and the TAPE. */
    static TurnRing ringless() {
        TurnRing x = new TurnRing();
        Checks.rule(x, "turn 1");
        x.seed(77);
        Checks.tape(x, "ring 4;house 1 1");
        return x;
    }

    static TurnRing houseless() {
        TurnRing x = Checks.made("ring 3;sight 0 3 0 23;gate 3", "turn 1");
        x.hour();
        return x;
    }

    /** A call answers what is due, and nothing changes by it. */
    static void unchanged(String name, Supplier<TurnRing> make, Call call, long want) {
        TurnRing x = make.get();
        Checks.due(name, call.on(x), want);
        Probe.same(name, x, make.get());
    }

    /** A text that is refused, and by which only the TAPE is emptied; ^ stands ahead of the place of its FAULT. */
    static void fault(String marked, int kind, Teller teller) {
        int place = marked.indexOf('^');
        String text = marked.substring(0, place) + marked.substring(place + 1);
        unchanged("the text \"" + marked + "\"", Stands::emptyTape, x -> teller.tell(x, text), Checks.fault(place, kind));
    }

    static void refused(String name, Call call, long want) {
        unchanged(name, Stands::rich, call, want);
    }

    static void refusedWithoutRing(String name, Call call, long want) {
        unchanged(name + " without a ring", Stands::ringless, call, want);
    }
}
