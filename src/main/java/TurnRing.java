import java.util.Arrays;

/**
 * Houses on a turntable. The document says what each call answers; the words
 * in capitals in the comments are its words.
 *
 * <p>All rows are made once, with the object, and used again by every call.
 */
public final class TurnRing {
    public static final int NONE = -1;

    private static final int TAPE_MOST = 400;
    private static final int SLOTS = 12;
    private static final int HOURS = 24;
    private static final int HOUSES_MOST = 7;
    private static final int SIGHTS_MOST = 12;
    private static final int SORTS = 5;
    private static final int RULES_MOST = 6;
    private static final int IMAGES = 4;
    private static final int DIARY_MOST = 10;
    private static final int DAY_LAST = 999;
    private static final int RATE_MOST = 3;

    private static final int CAN_NOT = -2;
    private static final int NOT_THERE = -1000;
    private static final int NOT_TURNED = -2000;
    private static final int NO_SUM = -100000;
    private static final int NO_DAYS = -10000000;

    private final Tape tape = new Tape();
    private Ring now = new Ring();
    /** Where a text is read into, and where HOURS are tried out: never kept. */
    private Ring trial = new Ring();
    private final Ring[] images = new Ring[IMAGES];
    private final boolean[] imageMade = new boolean[IMAGES];
    private final Rule[] rules = new Rule[RULES_MOST];
    private int ruleCount;
    private final ActLog acts = new ActLog();
    private final RuleReader ruleReader = new RuleReader();
    private final Machine machine = new Machine();
    private final Planner planner = new Planner();
    private final Trader trader = new Trader();
    private final Guesser guesser = new Guesser();

    public TurnRing() {
        for (int k = 0; k < IMAGES; k++) {
            images[k] = new Ring();
        }
    }

    // ---- the TAPE and what is told on it

    public int feed(int a, int b, int c, int d, int e) {
        if (tape.length + 20 > TAPE_MOST) {
            return NONE;
        }
        tape.putBytes(a);
        tape.putBytes(b);
        tape.putBytes(c);
        tape.putBytes(d);
        tape.putBytes(e);
        return tape.length;
    }

    public int end(int n) {
        if (n < 0 || n > tape.length) {
            return NONE;
        }
        tape.length = n;
        return n;
    }

    public int ring() {
        int fault = RingReader.readAll(tape, trial);
        tape.length = 0;
        if (fault != 0) {
            return -2 - fault;
        }
        trial.x = now.x;
        Ring before = now;
        now = trial;
        trial = before;
        acts.forget();
        return now.houses;
    }

    public int rule() {
        if (ruleCount >= RULES_MOST) {
            return NONE;
        }
        int fault = ruleReader.readAll(tape);
        tape.length = 0;
        if (fault != 0) {
            return -2 - fault;
        }
        rules[ruleCount] = new Rule(ruleReader.codeRead());
        ruleCount++;
        return ruleCount - 1;
    }

    // ---- how it is now

    public int house(int house, int what) {
        if (!hasHouse(house)) {
            return NOT_THERE;
        }
        if (what >= 100 && what < 100 + SORTS) {
            return now.liking[house * SORTS + what - 100];
        }
        switch (what) {
            case 0: return now.slots[house];
            case 1: return now.votes[house];
            case 2: return now.facing(house);
            case 3: return now.sortsAt(now.facing(house), now.hour);
            case 4: return now.likesNow(house);
            case 5: return now.isGate(now.facing(house)) ? 1 : 0;
            case 6: return now.wantsStay(house) ? 1 : 0;
            default: return NOT_THERE;
        }
    }

    public int direction(int direction, int what) {
        if (!now.told || !isDirection(direction)) {
            return -2;
        }
        switch (what) {
            case 0: return now.houseFacing(direction);
            case 1: return now.isGate(direction) ? 1 : 0;
            case 2: return now.sortsAt(direction, now.hour);
            default: return -2;
        }
    }

    public int rateOf(int hour) {
        return now.told && isHour(hour) ? now.rates[hour] : NOT_THERE;
    }

    public int worn(int spoke) {
        return now.told && isDirection(spoke) ? now.worn[spoke] : NONE;
    }

    public int count(int what) {
        switch (what) {
            case 0: return now.houses;
            case 1: return now.sights;
            case 2: return now.gates;
            case 3: return ruleCount;
            case 4: return now.angle;
            case 5: return now.hour;
            case 6: return now.day;
            case 7: return now.allLike(now.angle, now.hour);
            case 8: return now.stopped ? 1 : 0;
            case 9: return now.stops;
            case 10: return now.diary.lines;
            case 11: return acts.size;
            case 12: return now.x;
            case 13: return tape.length;
            case 14: return now.allVotes();
            default: return NO_SUM;
        }
    }

    // ---- ACTS, and what else changes it

    public int hour() {
        if (!now.told || now.hoursBehind(1) > lastHour()) {
            return NONE;
        }
        boolean wasStopped = now.stopped;
        int steps = now.passHour(now.rates[now.hour]);
        acts.keep(ActLog.HOUR, steps, wasStopped ? 1 : 0);
        return now.angle;
    }

    public int rate(int hour, int rate) {
        if (!now.told || !isHour(hour) || rate < -RATE_MOST || rate > RATE_MOST) {
            return NOT_THERE;
        }
        int before = now.rates[hour];
        now.rates[hour] = rate;
        acts.keep(ActLog.RATE, hour, before);
        return before;
    }

    public boolean swap(int one, int other) {
        if (!hasHouse(one) || !hasHouse(other) || one == other) {
            return false;
        }
        now.swapSlots(one, other);
        acts.keep(ActLog.SWAP, one, other);
        return true;
    }

    public boolean stop() {
        if (!now.told || now.stopped) {
            return false;
        }
        now.stopped = true;
        now.stops++;
        acts.keep(ActLog.STOP, 0, 0);
        return true;
    }

    public int undo() {
        return acts.undoLast(now) ? acts.size : NONE;
    }

    public int run(int rule, int n) {
        if (!now.told || !hasRule(rule) || n < 1 || n > 96 || now.hoursBehind(n) > lastHour()) {
            return NONE;
        }
        for (int i = 0; i < n; i++) {
            now.passHour(machine.rateBy(rules[rule], now));
        }
        acts.forget();
        return now.angle;
    }

    public int seed(int x) {
        if (x < 0) {
            return NONE;
        }
        int before = now.x;
        now.x = x;
        return before;
    }

    public int image(int k) {
        if (k < 0 || k >= IMAGES) {
            return NONE;
        }
        images[k].copyFrom(now);
        imageMade[k] = true;
        return now.day;
    }

    public int back(int k) {
        if (k < 0 || k >= IMAGES || !imageMade[k]) {
            return NONE;
        }
        now.copyFrom(images[k]);
        acts.forget();
        return now.day;
    }

    // ---- what will be seen

    public int faces(int house, int n) {
        if (!hasHouse(house) || n < 0 || n > 200) {
            return NONE;
        }
        return facedBy(now.slots[house], now.angleOn(n));
    }

    public int sees(int house, int n) {
        if (!hasHouse(house) || n < 0 || n > 200) {
            return NONE;
        }
        return now.sortsAt(facedBy(now.slots[house], now.angleOn(n)), now.hourOn(n));
    }

    public int day(int house) {
        return hasHouse(house) ? now.dayIn(house, now.slots[house]) : NO_SUM;
    }

    public int errand(int house, int gate, int w, int what) {
        if (!hasHouse(house) || !isDirection(gate) || !now.isGate(gate)
                || w < 0 || w > HOURS || what < 0 || what > 1) {
            return NONE;
        }
        int slot = now.slots[house];
        int angle = now.angle;
        int left = NONE;
        for (int t = 0; t <= 96 && (left >= 0 || t <= 48); t++) {
            int faced = facedBy(slot, angle);
            if (left < 0 && faced == gate) {
                left = t;
            }
            // of all gates the soonest is the first one faced that one can have walked to
            if (left >= 0 && now.isGate(faced) && t >= left + w + wayBetween(gate, faced)) {
                return what == 0 ? left : t;
            }
            angle = now.angleBehind(angle, t);
        }
        return CAN_NOT;
    }

    private static int wayBetween(int one, int other) {
        int way = Math.abs(one - other);
        return Math.min(way, SLOTS - way);
    }

    // ---- VOTES

    public int stay(int what) {
        if (!now.told || what < 0 || what > 1) {
            return NONE;
        }
        if (what == 1) {
            return 2 * now.stayVotes() > now.allVotes() ? 1 : 0;
        }
        int who = 0;
        for (int house = 0; house < now.houses; house++) {
            if (now.wantsStay(house)) {
                who |= 1 << house;
            }
        }
        return who;
    }

    public int swings(int house) {
        if (!hasHouse(house)) {
            return NONE;
        }
        int all = now.allVotes();
        int sets = 0;
        for (int set = 0; set < 1 << now.houses; set++) {
            if ((set >> house & 1) == 0) {
                int votes = now.votesOf(set);
                if (2 * votes <= all && 2 * (votes + now.votes[house]) > all) {
                    sets++;
                }
            }
        }
        return sets;
    }

    // ---- what would be best

    public int plan(int n, boolean fair, int what) {
        if (now.houses == 0 || n < 1 || n > Planner.HOURS_MOST || what < 0 || what > Planner.HOURS_MOST) {
            return NO_SUM;
        }
        if (what > n) {
            return CAN_NOT;
        }
        planner.findBest(now, n, fair);
        return what == 0 ? planner.worth : planner.best[what - 1];
    }

    public int trade(int what) {
        if (!now.told || what < 0 || what > 1 + HOUSES_MOST) {
            return NO_SUM;
        }
        if (what - 2 >= now.houses) {
            return CAN_NOT;
        }
        trader.findRows(now);
        if (what == 0) {
            return trader.ways[0];
        }
        return what == 1 ? trader.most[0] : trader.firstSlotOf(now, what - 2);
    }

    public int spare(int n, int t, int what) {
        if (!now.told || n < 1 || n > 5 || t < 0 || t > 10 || what < 0 || what > 5) {
            return NONE;
        }
        if (t > 2 * n || what > n) {
            return CAN_NOT;
        }
        // All rows of t steps go over the same spokes, so the first row is the
        // best: its last HOURS take as much as they can.
        return what == 0 ? now.mostWornBehind(t) : Math.max(0, Math.min(2, t - 2 * (n - what)));
    }

    public int apart(int one, int other, int house, int sort, int n) {
        if (!hasRule(one) || !hasRule(other) || !hasHouse(house) || !isSort(sort) || n < 1 || n > 60) {
            return NO_SUM;
        }
        return hoursSeen(rules[one], house, sort, n) - hoursSeen(rules[other], house, sort, n);
    }

    private int hoursSeen(Rule rule, int house, int sort, int n) {
        trial.copyFrom(now);
        int seen = 0;
        for (int i = 0; i < n; i++) {
            seen += trial.sortsAt(trial.facing(house), trial.hour) >> sort & 1;
            trial.passHour(machine.rateBy(rule, trial));
        }
        return seen;
    }

    // ---- DIARY

    public int diary(int house, int n, int sort, boolean seen) {
        if (house == NONE) {
            now.diary.lines = 0;
            return 0;
        }
        if (!hasHouse(house) || n < 0 || n > 99 || !isSort(sort) || now.diary.lines >= DIARY_MOST) {
            return -2;
        }
        now.diary.write(house, n, sort, seen);
        return now.diary.lines;
    }

    public int turned(int what) {
        if (!now.told || what < 0 || what > 2) {
            return NOT_TURNED;
        }
        guesser.findTurns(now);
        if (what == 0) {
            return guesser.turns;
        }
        if (guesser.turns == 0) {
            return NOT_THERE;
        }
        return what == 1 ? guesser.angle[0] : guesser.rate[0];
    }

    public int look(int n, int what) {
        if (!now.told || n < 0 || n > 99 || what < 0 || what > 2) {
            return NONE;
        }
        guesser.findTurns(now);
        if (guesser.turns == 0 || now.houses == 0) {
            return CAN_NOT;
        }
        guesser.findLook(now, n);
        if (what == 2) {
            return guesser.greaterPart;
        }
        return what == 0 ? guesser.lookAt / SORTS : guesser.lookAt % SORTS;
    }

    // ---- DRAWS

    public int days(int m, int n, int p, int what) {
        if (!now.told || m < 1 || m > 10 || n < 1 || n > 96 || p < 0 || p > 100 || what < 0 || what > 1) {
            return NO_DAYS;
        }
        int x = now.x;
        int together = 0;
        for (int i = 0; i < m; i++) {
            int angle = now.angle;
            boolean stopped = now.stopped;
            for (int t = 0; t < n; t++) {
                x = nextDraw(x);
                stopped = stopped || x / 65536 % 100 < p;
                int rate = stopped ? 0 : now.rates[now.hourOn(t)];
                stopped = false;
                angle = wrapped(angle + rate);
                together += what == 1 ? Math.abs(rate) : now.allLike(angle, now.hourOn(t + 1));
            }
        }
        return together;
    }

    private static int nextDraw(int x) {
        return (int) ((x * 1103515245L + 12345L) % 2147483648L);
    }

    // ---- what there is

    private boolean hasHouse(int house) {
        return house >= 0 && house < now.houses;
    }

    private boolean hasRule(int rule) {
        return rule >= 0 && rule < ruleCount;
    }

    private static boolean isDirection(int direction) {
        return direction >= 0 && direction < SLOTS;
    }

    private static boolean isHour(int hour) {
        return hour >= 0 && hour < HOURS;
    }

    private static boolean isSort(int sort) {
        return sort >= 0 && sort < SORTS;
    }

    private static int lastHour() {
        return DAY_LAST * HOURS + HOURS - 1;
    }

    private static int wrapped(int angle) {
        int rest = angle % SLOTS;
        return rest < 0 ? rest + SLOTS : rest;
    }

    private static int facedBy(int slot, int angle) {
        int direction = slot + angle;
        return direction < SLOTS ? direction : direction - SLOTS;
    }

    // ---- classes inside

    /** A RING and how it stands: all that an IMAGE keeps. */
    private static final class Ring {
        boolean told;
        int angle;
        int hour;
        int day;
        boolean stopped;
        int stops;
        int x;
        int houses;
        int sights;
        int gates;
        final int[] slots = new int[HOUSES_MOST];
        final int[] firstSlots = new int[HOUSES_MOST];
        final int[] votes = new int[HOUSES_MOST];
        final int[] liking = new int[HOUSES_MOST * SORTS];
        /** Of each HOUR the SORTS to be seen, five bits a direction. */
        final long[] view = new long[HOURS];
        final int[] rates = new int[HOURS];
        final int[] worn = new int[SLOTS];
        final Diary diary = new Diary();

        /** A RING of which nothing is told yet. */
        void clear() {
            told = false;
            angle = 0;
            hour = 0;
            day = 0;
            stopped = false;
            stops = 0;
            x = 0;
            houses = 0;
            sights = 0;
            gates = 0;
            Arrays.fill(liking, 0);
            Arrays.fill(view, 0L);
            Arrays.fill(rates, 1);
            Arrays.fill(worn, 0);
            diary.lines = 0;
        }

        void copyFrom(Ring from) {
            told = from.told;
            angle = from.angle;
            hour = from.hour;
            day = from.day;
            stopped = from.stopped;
            stops = from.stops;
            x = from.x;
            houses = from.houses;
            sights = from.sights;
            gates = from.gates;
            System.arraycopy(from.slots, 0, slots, 0, HOUSES_MOST);
            System.arraycopy(from.firstSlots, 0, firstSlots, 0, HOUSES_MOST);
            System.arraycopy(from.votes, 0, votes, 0, HOUSES_MOST);
            System.arraycopy(from.liking, 0, liking, 0, HOUSES_MOST * SORTS);
            System.arraycopy(from.view, 0, view, 0, HOURS);
            System.arraycopy(from.rates, 0, rates, 0, HOURS);
            System.arraycopy(from.worn, 0, worn, 0, SLOTS);
            diary.copyFrom(from.diary);
        }

        // -- telling

        boolean slotTaken(int slot) {
            for (int house = 0; house < houses; house++) {
                if (slots[house] == slot) {
                    return true;
                }
            }
            return false;
        }

        void addHouse(int slot, int itsVotes) {
            slots[houses] = slot;
            firstSlots[houses] = slot;
            votes[houses] = itsVotes;
            houses++;
        }

        void addSight(int sort, int direction, int first, int last) {
            for (int h = first; h <= last; h++) {
                view[h] |= 1L << direction * SORTS + sort;
            }
            sights++;
        }

        void setRates(int first, int last, int turns) {
            for (int h = first; h <= last; h++) {
                rates[h] = turns;
            }
        }

        // -- seeing and liking

        boolean isGate(int direction) {
            return (gates >> direction & 1) != 0;
        }

        int facing(int house) {
            return facedBy(slots[house], angle);
        }

        int houseFacing(int direction) {
            for (int house = 0; house < houses; house++) {
                if (facing(house) == direction) {
                    return house;
                }
            }
            return NONE;
        }

        int sortsAt(int direction, int atHour) {
            return (int) (view[atHour] >>> direction * SORTS) & (1 << SORTS) - 1;
        }

        /** What a HOUSE would like in a SLOT, at an ANGLE, in an HOUR. */
        int likesIn(int house, int slot, int atAngle, int atHour) {
            int seen = sortsAt(facedBy(slot, atAngle), atHour);
            int sum = 0;
            for (int sort = 0; seen != 0 && sort < SORTS; sort++) {
                if ((seen & 1) != 0) {
                    sum += liking[house * SORTS + sort];
                }
                seen >>= 1;
            }
            return sum;
        }

        int likesNow(int house) {
            return likesIn(house, slots[house], angle, hour);
        }

        int allLike(int atAngle, int atHour) {
            int sum = 0;
            for (int house = 0; house < houses; house++) {
                sum += likesIn(house, slots[house], atAngle, atHour);
            }
            return sum;
        }

        int bestLike() {
            int best = houses == 0 ? 0 : likesNow(0);
            for (int house = 1; house < houses; house++) {
                best = Math.max(best, likesNow(house));
            }
            return best;
        }

        int leastLike() {
            int least = houses == 0 ? 0 : likesNow(0);
            for (int house = 1; house < houses; house++) {
                least = Math.min(least, likesNow(house));
            }
            return least;
        }

        int atGates() {
            int at = 0;
            for (int house = 0; house < houses; house++) {
                if (isGate(facing(house))) {
                    at++;
                }
            }
            return at;
        }

        /** What a HOUSE would like in 24 HOURS from now on, if it stood in a SLOT. */
        int dayIn(int house, int slot) {
            int sum = 0;
            int atAngle = angle;
            for (int t = 0; t < HOURS; t++) {
                sum += likesIn(house, slot, atAngle, hourOn(t));
                atAngle = angleBehind(atAngle, t);
            }
            return sum;
        }

        // -- VOTES

        boolean wantsStay(int house) {
            int turned = wrapped(angle + rates[hour]);
            return likesIn(house, slots[house], angle, hour) > likesIn(house, slots[house], turned, hour);
        }

        int stayVotes() {
            int sum = 0;
            for (int house = 0; house < houses; house++) {
                if (wantsStay(house)) {
                    sum += votes[house];
                }
            }
            return sum;
        }

        int allVotes() {
            return votesOf((1 << houses) - 1);
        }

        int votesOf(int set) {
            int sum = 0;
            for (int house = 0; house < houses; house++) {
                if ((set >> house & 1) != 0) {
                    sum += votes[house];
                }
            }
            return sum;
        }

        // -- HOURS

        int hourOn(int n) {
            return (hour + n) % HOURS;
        }

        /** The ANGLE behind the HOUR that is t HOURS on, if it was one ahead of it. */
        int angleBehind(int ahead, int t) {
            return stopped && t == 0 ? ahead : wrapped(ahead + rates[hourOn(t)]);
        }

        int angleOn(int n) {
            int atAngle = angle;
            for (int t = 0; t < n; t++) {
                atAngle = angleBehind(atAngle, t);
            }
            return atAngle;
        }

        /** How many HOURS it is since the first one, n HOURS on. */
        int hoursBehind(int n) {
            return day * HOURS + hour + n;
        }

        /** An HOUR goes by at a rate: the steps it turned. */
        int passHour(int rate) {
            int steps = stopped ? 0 : rate;
            int one = steps < 0 ? -1 : 1;
            for (int i = Math.abs(steps); i > 0; i--) {
                worn[angle]++;
                angle = wrapped(angle + one);
            }
            stopped = false;
            hour++;
            if (hour == HOURS) {
                hour = 0;
                day = Math.min(day + 1, DAY_LAST);
            }
            return steps;
        }

        void takeHourBack(int steps, boolean wasStopped) {
            int one = steps < 0 ? -1 : 1;
            for (int i = Math.abs(steps); i > 0; i--) {
                angle = wrapped(angle - one);
                worn[angle]--;
            }
            stopped = wasStopped;
            hour--;
            if (hour < 0) {
                hour = HOURS - 1;
                day--;
            }
        }

        void swapSlots(int one, int other) {
            int slot = slots[one];
            slots[one] = slots[other];
            slots[other] = slot;
        }

        /** How much the spoke worn most would be worn behind up to twelve steps more, none of which meets a spoke twice. */
        int mostWornBehind(int steps) {
            int most = 0;
            for (int spoke = 0; spoke < SLOTS; spoke++) {
                int more = wrapped(spoke - angle) < steps ? 1 : 0;
                most = Math.max(most, worn[spoke] + more);
            }
            return most;
        }
    }

    /** What was seen, a line each. */
    private static final class Diary {
        int lines;
        final int[] house = new int[DIARY_MOST];
        final int[] after = new int[DIARY_MOST];
        final int[] sort = new int[DIARY_MOST];
        /** 1 if it was seen, else 0. */
        final int[] seen = new int[DIARY_MOST];

        void copyFrom(Diary from) {
            lines = from.lines;
            System.arraycopy(from.house, 0, house, 0, DIARY_MOST);
            System.arraycopy(from.after, 0, after, 0, DIARY_MOST);
            System.arraycopy(from.sort, 0, sort, 0, DIARY_MOST);
            System.arraycopy(from.seen, 0, seen, 0, DIARY_MOST);
        }

        void write(int whose, int n, int which, boolean was) {
            house[lines] = whose;
            after[lines] = n;
            sort[lines] = which;
            seen[lines] = was ? 1 : 0;
            lines++;
        }
    }

    /** The last ACTS, in a row that goes round. */
    private static final class ActLog {
        static final int HOUR = 0;
        static final int RATE = 1;
        static final int SWAP = 2;
        static final int STOP = 3;
        private static final int MOST = 20;

        final int[] kinds = new int[MOST];
        final int[] firsts = new int[MOST];
        final int[] seconds = new int[MOST];
        int size;
        int next;

        void forget() {
            size = 0;
        }

        void keep(int kind, int first, int second) {
            kinds[next] = kind;
            firsts[next] = first;
            seconds[next] = second;
            next = (next + 1) % MOST;
            size = Math.min(size + 1, MOST);
        }

        boolean undoLast(Ring ring) {
            if (size == 0) {
                return false;
            }
            size--;
            next = (next + MOST - 1) % MOST;
            int first = firsts[next];
            int second = seconds[next];
            switch (kinds[next]) {
                case HOUR:
                    ring.takeHourBack(first, second != 0);
                    break;
                case RATE:
                    ring.rates[first] = second;
                    break;
                case SWAP:
                    ring.swapSlots(first, second);
                    break;
                default:
                    ring.stopped = false;
                    ring.stops--;
                    break;
            }
            return true;
        }
    }

    /**
     * The TAPE, gone along token by token up to its first FAULT. Behind a FAULT
     * there is only the end, so that whoever reads comes to an end as well.
     */
    private static final class Tape {
        // what can be wrong
        static final int CAN_NOT_STAND = 0;
        static final int BAD_NUMBER = 1;
        static final int TOO_DEEP = 2;
        static final int TOO_MANY = 3;
        static final int BAD_CLAUSE = 4;

        // signs that are no single byte
        static final int THE_END = -1;
        static final int NUMBER = -2;
        static final int WORD = -3;
        static final int LESS_OR_SAME = 256;
        static final int MORE_OR_SAME = 257;

        private static final int DIGITS_MOST = 5;

        private final byte[] text = new byte[TAPE_MOST];
        int length;
        private int at;
        private String words = "";

        /** 0 as long as there is none. */
        int fault;
        /** The token: where it starts, and a byte or one of the signs above. */
        int start;
        int sign;
        /** NONE if the token is none, or one of too many digits. */
        int number;
        /** Which of the words; NONE if the token is none of them. */
        int word;

        void putBytes(int four) {
            for (int shift = 24; shift >= 0 && length < TAPE_MOST; shift -= 8) {
                text[length] = (byte) (four >>> shift);
                length++;
            }
        }

        /** To the first token; the words to be known have blanks between them. */
        void begin(String itsWords) {
            words = itsWords;
            at = 0;
            fault = 0;
            advance();
        }

        /** A FAULT at the token. */
        void fail(int kind) {
            if (fault == 0) {
                fault = 1 + 8 * start + kind;
            }
            at = length;
            sign = THE_END;
            number = NONE;
            word = NONE;
        }

        /** To the next token. */
        void advance() {
            while (at < length && text[at] == ' ') {
                at++;
            }
            start = at;
            number = NONE;
            word = NONE;
            if (at >= length) {
                sign = THE_END;
            } else if (text[at] >= '0' && text[at] <= '9') {
                sign = NUMBER;
                readNumber();
            } else if (text[at] >= 'a' && text[at] <= 'z') {
                sign = WORD;
                readWord();
            } else {
                readSign();
            }
        }

        private void readNumber() {
            int value = 0;
            while (at < length && text[at] >= '0' && text[at] <= '9') {
                if (at - start < DIGITS_MOST) {
                    value = value * 10 + text[at] - '0';
                }
                at++;
            }
            number = at - start <= DIGITS_MOST ? value : NONE;
        }

        private void readWord() {
            while (at < length && text[at] >= 'a' && text[at] <= 'z') {
                at++;
            }
            int which = 0;
            int same = 0;
            // same: how many bytes of this word agree so far, or none can any more
            for (int i = 0; i < words.length() && word == NONE; i++) {
                char c = words.charAt(i);
                if (c == ' ') {
                    which++;
                    same = 0;
                } else if (same >= 0 && start + same < at && text[start + same] == c) {
                    same++;
                    boolean last = i + 1 == words.length() || words.charAt(i + 1) == ' ';
                    if (last && start + same == at) {
                        word = which;
                    }
                } else {
                    same = NONE;
                }
            }
        }

        private void readSign() {
            sign = text[at] & 255;
            at++;
            boolean equals = at < length && text[at] == '=';
            if (equals && (sign == '<' || sign == '>')) {
                sign = sign == '<' ? LESS_OR_SAME : MORE_OR_SAME;
                at++;
            }
        }

        /** A NUMBER from least to most, and on; NONE, and a FAULT, for others. */
        int takeNumber(int least, int most) {
            int value = number;
            if (sign != NUMBER) {
                fail(CAN_NOT_STAND);
            } else if (value < least || value > most || value == NONE) {
                fail(BAD_NUMBER);
            } else {
                advance();
                return value;
            }
            return NONE;
        }
    }

    /** Reads the text of a RING. */
    private static final class RingReader {
        private static final String WORDS = "ring house sight likes loathes gate rate";
        private static final int RING = 0;
        private static final int HOUSE = 1;
        private static final int SIGHT = 2;
        private static final int LIKES = 3;
        private static final int LOATHES = 4;
        private static final int GATE = 5;
        private static final int CLAUSES_MOST = 40;

        /** Its FAULT, or 0 and the RING is as told. */
        static int readAll(Tape in, Ring ring) {
            in.begin(WORDS);
            ring.clear();
            boolean more = true;
            for (int clauses = 0; more && clauses <= CLAUSES_MOST; clauses++) {
                int word = in.word;
                if (word == NONE) {
                    in.fail(Tape.CAN_NOT_STAND);
                } else if (clauses == CLAUSES_MOST || !mayFollow(ring, word, clauses)) {
                    in.fail(Tape.BAD_CLAUSE);
                } else {
                    in.advance();
                    readRest(in, ring, word);
                }
                more = in.sign == ';';
                if (more) {
                    in.advance();
                }
            }
            if (in.sign != Tape.THE_END) {
                in.fail(Tape.CAN_NOT_STAND);
            }
            ring.told = in.fault == 0;
            return in.fault;
        }

        private static boolean mayFollow(Ring ring, int word, int clauses) {
            if (word == HOUSE && ring.houses == HOUSES_MOST || word == SIGHT && ring.sights == SIGHTS_MOST) {
                return false;
            }
            return (word == RING) == (clauses == 0);
        }

        private static void readRest(Tape in, Ring ring, int word) {
            switch (word) {
                case RING:
                    ring.angle = Math.max(0, in.takeNumber(0, SLOTS - 1));
                    break;
                case HOUSE:
                    readHouse(in, ring);
                    break;
                case SIGHT:
                    readSight(in, ring);
                    break;
                case LIKES:
                    readLiking(in, ring, 1);
                    break;
                case LOATHES:
                    readLiking(in, ring, -1);
                    break;
                case GATE:
                    readGate(in, ring);
                    break;
                default:
                    readRate(in, ring);
                    break;
            }
        }

        private static void readHouse(Tape in, Ring ring) {
            if (in.sign == Tape.NUMBER && ring.slotTaken(in.number)) {
                in.fail(Tape.BAD_NUMBER);
            }
            int slot = in.takeNumber(0, SLOTS - 1);
            int votes = in.takeNumber(1, 9);
            if (in.fault == 0) {
                ring.addHouse(slot, votes);
            }
        }

        private static void readSight(Tape in, Ring ring) {
            int sort = in.takeNumber(0, SORTS - 1);
            int direction = in.takeNumber(0, SLOTS - 1);
            int first = in.takeNumber(0, HOURS - 1);
            int last = in.takeNumber(first, HOURS - 1);
            if (in.fault == 0) {
                ring.addSight(sort, direction, first, last);
            }
        }

        private static void readLiking(Tape in, Ring ring, int sign) {
            int house = in.takeNumber(0, ring.houses - 1);
            int sort = in.takeNumber(0, SORTS - 1);
            int much = in.takeNumber(1, 9);
            if (in.fault == 0) {
                ring.liking[house * SORTS + sort] = sign * much;
            }
        }

        private static void readGate(Tape in, Ring ring) {
            int direction = in.takeNumber(0, SLOTS - 1);
            if (in.fault == 0) {
                ring.gates |= 1 << direction;
            }
        }

        private static void readRate(Tape in, Ring ring) {
            int first = in.takeNumber(0, HOURS - 1);
            int last = in.takeNumber(first, HOURS - 1);
            int turns = in.takeNumber(0, 2 * RATE_MOST);
            if (in.fault == 0) {
                ring.setRates(first, last, turns - RATE_MOST);
            }
        }
    }

    /**
     * A RULE as a row of orders for the Machine, each behind what it works on:
     * 0 and more is a NUMBER, -1 to -12 are the WORDS, below them the signs.
     */
    private static final class Rule {
        static final int LAST_WORD = -12;
        static final int ADD = -21;
        static final int SUBTRACT = -22;
        static final int TIMES = -23;
        static final int DIVIDE = -24;
        static final int REST = -25;
        static final int LESS = -26;
        static final int LESS_OR_SAME = -27;
        static final int SAME = -28;
        static final int MORE_OR_SAME = -29;
        static final int MORE = -30;
        static final int AND = -31;
        static final int OR = -32;
        static final int NOT = -33;
        static final int TURN = -34;
        static final int TURN_IF = -35;

        final int[] code;

        Rule(int[] itsCode) {
            code = itsCode;
        }
    }

    /** Reads the text of a RULE. */
    private static final class RuleReader {
        /** The first twelve are VALUES. */
        private static final String WORDS =
                "hour day angle rate worn liked best least stays votes gates stops turn if not and or";
        private static final int VALUES = 12;
        private static final int TURN = 12;
        private static final int IF = 13;
        private static final int NOT = 14;
        private static final int AND = 15;
        private static final int OR = 16;

        private static final int CLAUSES_MOST = 12;
        private static final int DEPTH_MOST = 10;
        private static final int COUNTED_MOST = 60;
        /** No order is this: none is waiting. */
        private static final int NO_ORDER = 0;

        /** An order comes from at least one byte of its own, so there are no more of them. */
        private final int[] code = new int[TAPE_MOST];
        private int size;
        /** VALUES and FACTS made of a SIGN. */
        private int counted;

        /** Its FAULT, or 0. */
        int readAll(Tape in) {
            in.begin(WORDS);
            size = 0;
            counted = 0;
            boolean more = true;
            for (int clauses = 0; more && clauses <= CLAUSES_MOST; clauses++) {
                if (in.word != TURN) {
                    in.fail(Tape.CAN_NOT_STAND);
                } else if (clauses == CLAUSES_MOST) {
                    in.fail(Tape.BAD_CLAUSE);
                }
                in.advance();
                readSum(in);
                int order = Rule.TURN;
                if (in.word == IF) {
                    in.advance();
                    readTest(in, 0);
                    order = Rule.TURN_IF;
                }
                emit(order);
                more = in.sign == ';';
                if (more) {
                    in.advance();
                }
            }
            if (in.sign != Tape.THE_END) {
                in.fail(Tape.CAN_NOT_STAND);
            }
            return in.fault;
        }

        int[] codeRead() {
            return Arrays.copyOf(code, size);
        }

        private void emit(int order) {
            if (size < code.length) {
                code[size] = order;
                size++;
            }
        }

        /** The token is a VALUE, or the SIGN of a FACT. */
        private void countToken(Tape in) {
            if (counted >= COUNTED_MOST) {
                in.fail(Tape.TOO_MANY);
            }
            counted++;
        }

        /** depth: how many [ and not it lies within. */
        private void readTest(Tape in, int depth) {
            boolean afterAnd = false;
            boolean afterOr = false;
            boolean more = true;
            for (int i = 0; more && i <= COUNTED_MOST; i++) {
                readFact(in, depth);
                if (afterAnd) {
                    emit(Rule.AND);
                }
                afterAnd = in.word == AND;
                // a PART ends where no and goes on
                if (afterOr && !afterAnd) {
                    emit(Rule.OR);
                }
                afterOr = afterOr && afterAnd || in.word == OR;
                more = in.word == AND || in.word == OR;
                if (more) {
                    in.advance();
                }
            }
        }

        private void readFact(Tape in, int depth) {
            boolean bracket = in.sign == '[';
            if (!bracket && in.word != NOT) {
                readSum(in);
                int order = comparisonOf(in.sign);
                if (order == NO_ORDER) {
                    in.fail(Tape.CAN_NOT_STAND);
                }
                countToken(in);
                in.advance();
                readSum(in);
                emit(order);
            } else if (depth >= DEPTH_MOST) {
                in.fail(Tape.TOO_DEEP);
            } else if (bracket) {
                in.advance();
                readTest(in, depth + 1);
                if (in.sign == ']') {
                    in.advance();
                } else {
                    in.fail(Tape.CAN_NOT_STAND);
                }
            } else {
                in.advance();
                readFact(in, depth + 1);
                emit(Rule.NOT);
            }
        }

        private void readSum(Tape in) {
            int adding = NO_ORDER;
            int timing = NO_ORDER;
            boolean more = true;
            for (int i = 0; more && i <= COUNTED_MOST; i++) {
                checkValue(in);
                emit(in.word == NONE ? in.number : -1 - in.word);
                in.advance();
                if (timing != NO_ORDER) {
                    emit(timing);
                }
                timing = timingOf(in.sign);
                // a TERM ends where no * / % goes on
                if (timing == NO_ORDER) {
                    if (adding != NO_ORDER) {
                        emit(adding);
                    }
                    adding = addingOf(in.sign);
                }
                more = timing != NO_ORDER || adding != NO_ORDER;
                if (more) {
                    in.advance();
                }
            }
        }

        private void checkValue(Tape in) {
            boolean isWord = in.word != NONE && in.word < VALUES;
            if (!isWord && in.sign != Tape.NUMBER) {
                in.fail(Tape.CAN_NOT_STAND);
            } else if (!isWord && in.number == NONE) {
                in.fail(Tape.BAD_NUMBER);
            }
            countToken(in);
        }

        private static int addingOf(int sign) {
            switch (sign) {
                case '+': return Rule.ADD;
                case '-': return Rule.SUBTRACT;
                default: return NO_ORDER;
            }
        }

        private static int timingOf(int sign) {
            switch (sign) {
                case '*': return Rule.TIMES;
                case '/': return Rule.DIVIDE;
                case '%': return Rule.REST;
                default: return NO_ORDER;
            }
        }

        private static int comparisonOf(int sign) {
            switch (sign) {
                case '<': return Rule.LESS;
                case Tape.LESS_OR_SAME: return Rule.LESS_OR_SAME;
                case '=': return Rule.SAME;
                case Tape.MORE_OR_SAME: return Rule.MORE_OR_SAME;
                case '>': return Rule.MORE;
                default: return NO_ORDER;
            }
        }
    }

    /** Works out the rate that a RULE asks for. */
    private static final class Machine {
        /** Two for each depth of [, and five for a FACT and the SUM to turn by, are enough. */
        private static final int STACK_MOST = 32;

        private final long[] stack = new long[STACK_MOST];
        private int top;

        int rateBy(Rule rule, Ring ring) {
            top = 0;
            for (int i = 0; i < rule.code.length; i++) {
                int order = rule.code[i];
                if (order >= 0) {
                    push(order);
                } else if (order >= Rule.LAST_WORD) {
                    push(wordOf(-1 - order, ring));
                } else if (order == Rule.NOT) {
                    push(truth(pop() == 0));
                } else if (order == Rule.TURN) {
                    return held(pop());
                } else if (order == Rule.TURN_IF) {
                    boolean holds = pop() != 0;
                    long sum = pop();
                    if (holds) {
                        return held(sum);
                    }
                } else {
                    long right = pop();
                    long left = pop();
                    push(joined(order, left, right));
                }
            }
            return 0;
        }

        private static int held(long sum) {
            return (int) Math.max(-RATE_MOST, Math.min(RATE_MOST, sum));
        }

        private void push(long value) {
            if (top < STACK_MOST) {
                stack[top] = value;
                top++;
            }
        }

        private long pop() {
            if (top == 0) {
                return 0;
            }
            top--;
            return stack[top];
        }

        private static long truth(boolean holds) {
            return holds ? 1 : 0;
        }

        private static long joined(int order, long left, long right) {
            switch (order) {
                case Rule.ADD: return left + right;
                case Rule.SUBTRACT: return left - right;
                case Rule.TIMES: return left * right;
                case Rule.DIVIDE: return right == 0 ? 0 : left / right;
                case Rule.REST: return right == 0 ? 0 : left % right;
                case Rule.LESS: return truth(left < right);
                case Rule.LESS_OR_SAME: return truth(left <= right);
                case Rule.SAME: return truth(left == right);
                case Rule.MORE_OR_SAME: return truth(left >= right);
                case Rule.MORE: return truth(left > right);
                case Rule.AND: return left & right;
                default: return left | right;
            }
        }

        /** In the order of the WORDS that the RuleReader knows. */
        private static int wordOf(int word, Ring ring) {
            switch (word) {
                case 0: return ring.hour;
                case 1: return ring.day;
                case 2: return ring.angle;
                case 3: return ring.rates[ring.hour];
                case 4: return ring.worn[ring.angle];
                case 5: return ring.allLike(ring.angle, ring.hour);
                case 6: return ring.bestLike();
                case 7: return ring.leastLike();
                case 8: return ring.stayVotes();
                case 9: return ring.allVotes();
                case 10: return ring.atGates();
                default: return ring.stops;
            }
        }
    }

    /** Goes through all rows of rates of a PLAN, in their order. */
    private static final class Planner {
        static final int HOURS_MOST = 5;
        private static final int ROWS_MOST = 243;

        final int[] row = new int[HOURS_MOST];
        final int[] best = new int[HOURS_MOST];
        int worth;
        /** The ANGLE ahead of each HOUR of the row. */
        final int[] angles = new int[HOURS_MOST + 1];
        /** What each HOUSE had ahead of each HOUR of the row. */
        final int[] had = new int[(HOURS_MOST + 1) * HOUSES_MOST];

        void findBest(Ring ring, int n, boolean fair) {
            Arrays.fill(row, -1);
            angles[0] = ring.angle;
            int changed = 0;
            for (int i = 0; i < ROWS_MOST && changed >= 0; i++) {
                weighFrom(ring, changed, n);
                int its = fair ? leastHad(ring, n) : allHad(ring, n);
                if (i == 0 || its > worth) {
                    worth = its;
                    System.arraycopy(row, 0, best, 0, HOURS_MOST);
                }
                changed = nextRow(n);
            }
        }

        /** The HOURS ahead of the first that changed are as they were in the row before. */
        private void weighFrom(Ring ring, int changed, int n) {
            for (int t = changed; t < n; t++) {
                angles[t + 1] = wrapped(angles[t] + row[t]);
                for (int house = 0; house < ring.houses; house++) {
                    had[(t + 1) * HOUSES_MOST + house] = had[t * HOUSES_MOST + house]
                            + ring.likesIn(house, ring.slots[house], angles[t + 1], ring.hourOn(t + 1));
                }
            }
        }

        /** The first HOUR whose rate is another one in the next row; NONE behind the last. */
        private int nextRow(int n) {
            for (int t = n - 1; t >= 0; t--) {
                if (row[t] < 1) {
                    row[t]++;
                    return t;
                }
                row[t] = -1;
            }
            return NONE;
        }

        private int allHad(Ring ring, int n) {
            int sum = 0;
            for (int house = 0; house < ring.houses; house++) {
                sum += had[n * HOUSES_MOST + house];
            }
            return sum;
        }

        private int leastHad(Ring ring, int n) {
            int least = had[n * HOUSES_MOST];
            for (int house = 1; house < ring.houses; house++) {
                least = Math.min(least, had[n * HOUSES_MOST + house]);
            }
            return least;
        }
    }

    /**
     * Counts the rows of a TRADE by the sets of SLOTS that the first HOUSES
     * have taken: how the rest goes on depends on the set alone.
     */
    private static final class Trader {
        private static final int SETS = 1 << HOUSES_MOST;

        /** The SLOTS that HOUSES have, the least first. */
        final int[] slots = new int[HOUSES_MOST];
        /** DAY of each HOUSE in each of these. */
        final int[] daysIn = new int[HOUSES_MOST * HOUSES_MOST];
        final int[] daysNow = new int[HOUSES_MOST];
        /** Of each set taken: in how many ways the HOUSES left can have the SLOTS left. */
        final int[] ways = new int[SETS];
        /** And the most that their DAYS are together. */
        final int[] most = new int[SETS];

        void findRows(Ring ring) {
            sortSlots(ring);
            for (int house = 0; house < ring.houses; house++) {
                for (int k = 0; k < ring.houses; k++) {
                    int itsDay = ring.dayIn(house, slots[k]);
                    daysIn[house * HOUSES_MOST + k] = itsDay;
                    if (slots[k] == ring.slots[house]) {
                        daysNow[house] = itsDay;
                    }
                }
            }
            int all = (1 << ring.houses) - 1;
            ways[all] = 1;
            most[all] = 0;
            for (int taken = all - 1; taken >= 0; taken--) {
                weighSet(taken, ring.houses);
            }
        }

        private void sortSlots(Ring ring) {
            int k = 0;
            for (int slot = 0; slot < SLOTS; slot++) {
                if (ring.slotTaken(slot) && k < HOUSES_MOST) {
                    slots[k] = slot;
                    k++;
                }
            }
        }

        private boolean mayTake(int house, int k, int taken) {
            return (taken >> k & 1) == 0 && ways[taken | 1 << k] > 0
                    && daysIn[house * HOUSES_MOST + k] >= daysNow[house];
        }

        private int sumWith(int house, int k, int taken) {
            return daysIn[house * HOUSES_MOST + k] + most[taken | 1 << k];
        }

        private void weighSet(int taken, int houses) {
            int house = Integer.bitCount(taken);
            ways[taken] = 0;
            for (int k = 0; k < houses; k++) {
                if (mayTake(house, k, taken)) {
                    int sum = sumWith(house, k, taken);
                    most[taken] = ways[taken] == 0 ? sum : Math.max(most[taken], sum);
                    ways[taken] += ways[taken | 1 << k];
                }
            }
        }

        /** The SLOT of a HOUSE in the first of the best rows. */
        int firstSlotOf(Ring ring, int whose) {
            int taken = 0;
            int slot = NONE;
            for (int house = 0; house <= whose; house++) {
                int k = firstChoice(house, taken, ring.houses);
                slot = slots[k];
                taken |= 1 << k;
            }
            return slot;
        }

        private int firstChoice(int house, int taken, int houses) {
            for (int k = 0; k < houses; k++) {
                if (mayTake(house, k, taken) && sumWith(house, k, taken) == most[taken]) {
                    return k;
                }
            }
            return 0;
        }
    }

    /** How it may have turned by the DIARY, and what to look at next. */
    private static final class Guesser {
        private static final int TURNS_MOST = SLOTS * (2 * RATE_MOST + 1);

        final int[] angle = new int[TURNS_MOST];
        final int[] rate = new int[TURNS_MOST];
        int turns;
        /** By HOUSE and SORT: in how many of the turns it is seen. */
        final int[] seenIn = new int[HOUSES_MOST * SORTS];
        int lookAt;
        int greaterPart;

        void findTurns(Ring ring) {
            turns = 0;
            for (int a = 0; a < SLOTS; a++) {
                for (int r = -RATE_MOST; r <= RATE_MOST; r++) {
                    if (fitsDiary(ring, a, r)) {
                        angle[turns] = a;
                        rate[turns] = r;
                        turns++;
                    }
                }
            }
        }

        private static int sortsSeen(Ring ring, int house, int n, int firstAngle, int itsRate) {
            int faced = facedBy(ring.firstSlots[house], wrapped(firstAngle + n * itsRate));
            return ring.sortsAt(faced, n % HOURS);
        }

        private static boolean fitsDiary(Ring ring, int firstAngle, int itsRate) {
            Diary diary = ring.diary;
            for (int i = 0; i < diary.lines; i++) {
                int sorts = sortsSeen(ring, diary.house[i], diary.after[i], firstAngle, itsRate);
                if ((sorts >> diary.sort[i] & 1) != diary.seen[i]) {
                    return false;
                }
            }
            return true;
        }

        void findLook(Ring ring, int n) {
            Arrays.fill(seenIn, 0);
            for (int i = 0; i < turns; i++) {
                for (int house = 0; house < ring.houses; house++) {
                    int sorts = sortsSeen(ring, house, n, angle[i], rate[i]);
                    for (int sort = 0; sort < SORTS; sort++) {
                        seenIn[house * SORTS + sort] += sorts >> sort & 1;
                    }
                }
            }
            for (int i = 0; i < ring.houses * SORTS; i++) {
                int greater = Math.max(seenIn[i], turns - seenIn[i]);
                if (i == 0 || greater < greaterPart) {
                    lookAt = i;
                    greaterPart = greater;
                }
            }
        }
    }
}
