import java.lang.management.ManagementFactory;

/** All calls of a run live in one room: what an object and its dearest calls make is counted in bytes. */
public final class RoomTests {
    public static void main(String[] args) {
        com.sun.management.ThreadMXBean threads = (com.sun.management.ThreadMXBean) ManagementFactory.getThreadMXBean();
        long me = Thread.currentThread().getId();
        TurnRing first = used();
        long before = threads.getThreadAllocatedBytes(me);
        TurnRing x = new TurnRing();
        long object = threads.getThreadAllocatedBytes(me) - before;
        Checks.due("an object takes " + object + " bytes, at most 20000", object <= 20000, true);

        x = used();
        before = threads.getThreadAllocatedBytes(me);
        for (int i = 0; i < 400; i++) dear(x, i);
        long calls = threads.getThreadAllocatedBytes(me) - before;
        Checks.due("400 calls take " + calls + " bytes, none of their own", calls <= 4096, true);
        Checks.due("the first stands", first.count(0), 7);
        Checks.finish();
    }

    private static TurnRing used() {
        TurnRing x = Checks.made("ring 0;house 0 1;house 1 1;house 2 1;house 3 1;house 4 1;house 5 1;house 6 1;sight 0 3 0 23;likes 0 0 1;gate 1",
                "turn stays + best * least if liked > 0 or worn < 3;turn 1", "turn 2");
        for (int i = 0; i < 40; i++) dear(x, i);
        return x;
    }

    private static int dear(TurnRing x, int i) {
        switch (i % 20) {
            case 0: return x.plan(5, true, 0);
            case 1: return x.plan(5, false, 5);
            case 2: return x.trade(8);
            case 3: return x.days(10, 96, 30, 0);
            case 4: return x.apart(0, 1, 0, 0, 60);
            case 5: return x.run(0, 96);
            case 6: return x.look(99, 2);
            case 7: return x.turned(0);
            case 8: return x.errand(0, 1, 24, 1);
            case 9: return x.swings(6);
            case 10: return x.image(i % 4);
            case 11: return x.back(2);
            case 12: return x.hour();
            case 13: return x.swap(0, 1) ? 1 : 0;
            case 14: return x.rate(3, 2);
            case 15: return x.undo();
            case 16: return x.diary(0, 3, 1, false);
            case 17: return x.feed(1, 2, 3, 4, 5);
            case 18: return x.ring();
            default: return x.sees(0, 200);
        }
    }
}
