/**
 * Seven years unwashed: a discharged soldier, the people who let him in or not, the lands that say
 * who opens when, and all that can be asked of how he fares. The words in capitals are those of the
 * document (shared/DOC.md).
 */
public final class SevenUnwashed {
    public static final int NONE = -1, BAD = -2, STATE = -3, FULL = -4;
    public static final long NO = Long.MIN_VALUE;

    private static final int NEVER = -5;
    private static final int NOTHING = -11, CAST = -12, PLACE = -13, SIZE = -14;
    /** WELCOME may be -1 too, so of() has an answer of its own for NONE. */
    private static final int OF_NONE = -10001;
    private static final int FAULTS = -10;
    private static final int RAN_OUT = 100;

    private static final int MOST_PEOPLE = 6, MOST_PLACES = 6, MOST_LANDS = 6;
    private static final int MOST_SEEN = 5, MOST_WINTER = 10, MOST_BOOK = 8;
    private static final int MOST_V = 9, MOST_ROW = 9, ROW_PARTS = 4;
    private static final int MOST_THANKS = 999, MOST_GOT = 99999, MOST_HEALTH = 999, MOST_SMELL = 999;
    private static final int FIRST_HEALTH = 50;
    private static final int LAST_DAY = 9999;
    private static final int LONG_RUN = 60, SHORT_RUN = 20, DEATH_RUN = 99, WELL_RUN = 40;
    private static final int MOST_GUESS = 40;

    private static final int PERSON = 0, DEVOUT = 1, FEARFUL = 2, GREEDY = 3, FALSE = 4, HIRED = 5, TOLD = 6;
    private static final int KINDS = 7;
    /** The KIND above each KIND. */
    private static final int[] ABOVE = {-1, PERSON, PERSON, PERSON, DEVOUT, FEARFUL, GREEDY};

    private static final int GOES_DAY = 0, GOES_DEAD = 1, GOES_ILL = 2, GOES_WASHED = 3;

    private final Land bare = new Land();
    private final World now = new World(bare);
    private final World trial = new World(bare);
    private final World kept = new World(bare);
    private boolean isKept;
    private final Land[] lands = new Land[MOST_LANDS];
    private int landCount;
    private final Text text = new Text();
    private final Acts acts = new Acts();
    private final Tapes tapes = new Tapes();

    public SevenUnwashed() {
        for (int i = 0; i < MOST_LANDS; i++) {
            lands[i] = new Land();
        }
    }

    // ---- people, lands, the soldier

    public int person(int kind, int v, int thanks) {
        if (!isWithin(kind, 0, KINDS - 1)) {
            return NONE;
        }
        if (!isWithin(v, 0, MOST_V) || !isWithin(thanks, 0, MOST_THANKS)) {
            return BAD;
        }
        return now.people.size < MOST_PEOPLE ? now.people.join(kind, v, thanks) : FULL;
    }

    public int of(int person, int what) {
        if (!isPerson(person)) {
            return OF_NONE;
        }
        People people = now.people;
        switch (what) {
            case 0:
                return people.kind[person];
            case 1:
                return people.v[person];
            case 2:
                return people.thanks[person];
            case 3:
                return people.got[person];
            case 4:
                return people.isDead(person) ? 1 : 0;
            case 5:
                now.letIn();
                return now.welcome[person];
            case 6:
                return (now.letIn() >> person) & 1;
            case 7:
                return now.prayerOf(person, now.letIn());
            default:
                return isWithin(what, 10, 109) ? people.thanksFor(person, what - 10) : OF_NONE;
        }
    }

    public int thanks(int person, int n) {
        if (!isPerson(person)) {
            return NONE;
        }
        if (!isWithin(n, 0, MOST_THANKS)) {
            return BAD;
        }
        int before = now.people.thanks[person];
        now.people.thanks[person] = n;
        return before;
    }

    public int kill(int person, boolean is) {
        if (!isPerson(person)) {
            return NONE;
        }
        int before = now.people.isDead(person) ? 1 : 0;
        now.people.setDead(person, is);
        return before;
    }

    public int row(int person, int part, int n) {
        if (!isPerson(person) || !isWithin(part, 0, ROW_PARTS - 1)) {
            return NONE;
        }
        if (!isWithin(n, 0, MOST_ROW)) {
            return BAD;
        }
        if (now.people.kind[person] != TOLD) {
            return STATE;
        }
        int place = person * ROW_PARTS + part;
        int before = now.people.rows[place];
        now.people.rows[place] = n;
        return before;
    }

    public int soldier(int what, int n) {
        if (!isWithin(what, 0, 1)) {
            return NONE;
        }
        if (!isWithin(n, 0, what == 0 ? MOST_HEALTH : MOST_SMELL)) {
            return BAD;
        }
        int before = what == 0 ? now.health : now.smell;
        if (what == 0) {
            now.health = n;
        } else {
            now.smell = n;
        }
        return before;
    }

    public int round(int person) {
        if (person == -1) {
            now.places = 0;
            return 0;
        }
        if (!isPerson(person)) {
            return NONE;
        }
        if (now.places >= MOST_PLACES) {
            return FULL;
        }
        now.round[now.places] = person;
        now.places++;
        return now.places;
    }

    public int feed(int sign) {
        if (!isWithin(sign, 0, 127)) {
            return BAD;
        }
        return text.isFull() ? FULL : text.put(sign);
    }

    public int land() {
        if (landCount >= MOST_LANDS) {
            return FULL;
        }
        Land next = lands[landCount];
        int fault = text.becomes(next);
        if (fault >= 0) {
            return FAULTS - fault;
        }
        now.settle(next);
        landCount++;
        return landCount - 1;
    }

    public int told(int what) {
        switch (what) {
            case 0:
                return now.day;
            case 1:
                return now.health;
            case 2:
                return now.smell;
            case 3:
                return now.cold;
            case 4:
                return now.pocket;
            case 5:
                return now.stink;
            case 6:
                return now.letIn();
            case 7:
                return now.prayers(now.letIn());
            default:
                return isWithin(what, 10, 9 + now.places) ? now.round[what - 10] : NONE;
        }
    }

    // ---- days

    public int pass(int n) {
        if (!isWithin(n, 0, LONG_RUN)) {
            return BAD;
        }
        if (now.isGone() || now.day + n > LAST_DAY) {
            return STATE;
        }
        now.goDays(n);
        return now.health;
    }

    public int on(int n, int what) {
        boolean ofThanks = what >= 10 && isPerson(what - 10);
        boolean ofGot = what >= 20 && isPerson(what - 20);
        if (!isWithin(what, 0, 2) && !ofThanks && !ofGot) {
            return NONE;
        }
        if (!isWithin(n, 0, LONG_RUN)) {
            return BAD;
        }
        trial.startAs(now);
        trial.goDays(n);
        if (ofThanks) {
            return trial.people.thanks[what - 10];
        }
        if (ofGot) {
            return trial.people.got[what - 20];
        }
        if (what == 2) {
            return trial.letIn();
        }
        return what == 0 ? trial.health : trial.smell;
    }

    public int dies() {
        trial.startAs(now);
        for (int behind = 0; behind <= DEATH_RUN; behind++) {
            if (trial.isGone()) {
                return behind;
            }
            trial.goDay();
        }
        return NEVER;
    }

    public int worst(int n, int what) {
        if (!isWithin(what, 0, 1)) {
            return NONE;
        }
        if (!isWithin(n, 0, LONG_RUN)) {
            return BAD;
        }
        trial.startAs(now);
        int least = trial.health;
        int first = 0;
        for (int behind = 1; behind <= n; behind++) {
            trial.goDay();
            if (trial.health < least) {
                least = trial.health;
                first = behind;
            }
        }
        return what == 0 ? least : first;
    }

    // ---- what is best

    public int aim() {
        int best = NEVER;
        int well = -1;
        for (int person = 0; person < now.people.size; person++) {
            trial.startAs(now);
            trial.round[0] = person;
            trial.places = 1;
            trial.goDays(WELL_RUN);
            if (trial.health > well) {
                well = trial.health;
                best = person;
            }
        }
        return best;
    }

    public int swap() {
        int best = NEVER;
        trial.startAs(now);
        trial.goDays(WELL_RUN);
        int well = trial.health;
        for (int lesser = 0; lesser < now.places; lesser++) {
            for (int greater = lesser + 1; greater < now.places; greater++) {
                trial.startAs(now);
                trial.round[lesser] = now.round[greater];
                trial.round[greater] = now.round[lesser];
                trial.goDays(WELL_RUN);
                if (trial.health > well) {
                    well = trial.health;
                    best = 10 * lesser + greater;
                }
            }
        }
        return best;
    }

    public int enough(int n) {
        if (!isWithin(n, 1, SHORT_RUN)) {
            return BAD;
        }
        for (int pocket = 0; pocket <= MOST_GUESS; pocket++) {
            trial.startAs(now);
            trial.pocket = pocket;
            trial.goDays(n);
            if (!trial.isGone()) {
                return pocket;
            }
        }
        return NEVER;
    }

    public int bears(int n) {
        if (!isWithin(n, 1, SHORT_RUN)) {
            return BAD;
        }
        for (int cold = MOST_GUESS; cold >= 0; cold--) {
            trial.startAs(now);
            trial.cold = cold;
            trial.goDays(n);
            if (!trial.isGone()) {
                return cold;
            }
        }
        return NEVER;
    }

    public int whose(int n) {
        if (!isWithin(n, 1, LONG_RUN)) {
            return BAD;
        }
        trial.startAs(now);
        trial.goDays(n);
        if (trial.isGone()) {
            return 0;
        }
        int bits = 0;
        for (int person = 0; person < now.people.size; person++) {
            if (!now.people.isDead(person) && isGoneWithout(person, n)) {
                bits |= 1 << person;
            }
        }
        return bits;
    }

    // ---- seen, odds

    public int see(int health, int n) {
        if (health == -1) {
            now.seen.empty();
            return 0;
        }
        if (!isWithin(health, 0, MOST_HEALTH) || !isWithin(n, 0, SHORT_RUN)) {
            return BAD;
        }
        return now.seen.isFull() ? FULL : now.seen.put(health, n);
    }

    public int was(int person, int what) {
        return fitting(person, what, true);
    }

    public int can(int person, int what) {
        return fitting(person, what, false);
    }

    public long odds(int n, int part) {
        int all = now.people.size;
        if (all == 0 || !isWithin(n, 0, LONG_RUN)) {
            return NO;
        }
        int lives = 0;
        for (int person = 0; person < all; person++) {
            if (!isGoneWithout(person, n)) {
                lives++;
            }
        }
        return lowest(lives, all, part);
    }

    public long mean(int n, int part) {
        int all = now.people.size;
        if (all == 0 || !isWithin(n, 0, LONG_RUN)) {
            return NO;
        }
        trial.startAs(now);
        trial.goDays(n);
        int together = 0;
        for (int person = 0; person < all; person++) {
            together += trial.people.thanks[person];
        }
        return lowest(together, all, part);
    }

    // ---- winters, books

    public int winter(int what, int person) {
        if (what == -1) {
            now.winter.empty();
            return 0;
        }
        if (!isWithin(what, GOES_DAY, GOES_WASHED) || (what == GOES_DEAD && !isPerson(person))) {
            return NONE;
        }
        return now.winter.isFull() ? FULL : now.winter.put(what, person);
    }

    public int gone(int what) {
        if (!isWithin(what, 0, 1)) {
            return NONE;
        }
        trial.startAs(now);
        for (int i = 0; i < now.winter.size; i++) {
            trial.suffer(now.winter.first[i], now.winter.second[i]);
        }
        return what == 0 ? trial.health : trial.smell;
    }

    public int book(int person, int thanks) {
        if (person == -1) {
            now.book.empty();
            return 0;
        }
        if (!isPerson(person)) {
            return NONE;
        }
        if (!isWithin(thanks, 0, MOST_THANKS)) {
            return BAD;
        }
        return now.book.isFull() ? FULL : now.book.put(person, thanks);
    }

    public int looked() {
        for (int i = 0; i < now.book.size; i++) {
            int person = now.book.first[i];
            if (isPerson(person) && now.people.thanks[person] != now.book.second[i]) {
                return i;
            }
        }
        return NEVER;
    }

    // ---- judging, the image, acts, tapes

    public int judge(int tape, int i) {
        if (!tapes.isTape(tape)) {
            return NONE;
        }
        if (!tapes.isEmpty(tape) && !tapes.isOf(tape, Tapes.SHORTS)) {
            return CAST;
        }
        for (int person = 0; person < now.people.size; person++) {
            if (!tapes.isPlace(tape, (long) i + person)) {
                return RAN_OUT + person;
            }
            if (tapes.valueAt(tape, i + person) != now.people.thanks[person]) {
                return person;
            }
        }
        return NEVER;
    }

    public int image() {
        kept.becomeAs(now);
        isKept = true;
        return now.people.size;
    }

    public int undo() {
        if (!isKept) {
            return STATE;
        }
        now.becomeAs(kept);
        return now.people.size;
    }

    public int act(int person, int act, int x) {
        acts.forget();
        if (!isPerson(person) || !isWithin(act, Acts.OPENS, Acts.TELLS)) {
            return 0;
        }
        return acts.begin(now.people, person, act, x);
    }

    public int trace(int i) {
        return isWithin(i, 0, acts.keptBodies() - 1) ? acts.bodies[i] : NONE;
    }

    public int taken(int person, int k) {
        if (!isWithin(k, 0, KINDS - 1)) {
            return BAD;
        }
        if (!isPerson(person)) {
            return NOTHING;
        }
        int kind = now.people.kind[person];
        return isUnder(kind, k) ? kind : CAST;
    }

    public int count(int what) {
        switch (what) {
            case 0:
                return now.people.size;
            case 1:
                return landCount;
            case 2:
                return now.places;
            case 3:
                return now.seen.size;
            case 4:
                return now.winter.size;
            case 5:
                return now.book.size;
            case 6:
                return text.size;
            case 7:
                return acts.ran;
            default:
                return BAD;
        }
    }

    public int tape(int tape, int sort, int n) {
        if (!tapes.isTape(tape)) {
            return NONE;
        }
        if (sort == -1) {
            tapes.drop(tape);
            return 1;
        }
        if (!isWithin(sort, Tapes.BYTES, Tapes.BOOLEANS) || n > Tapes.MOST_ITEMS) {
            return BAD;
        }
        if (n < 0) {
            return SIZE;
        }
        tapes.lay(tape, sort, n);
        return 1;
    }

    public int item(int tape, int i, long v) {
        if (!tapes.isTape(tape)) {
            return NONE;
        }
        if (tapes.isEmpty(tape)) {
            return NOTHING;
        }
        if (!tapes.isPlace(tape, i)) {
            return PLACE;
        }
        tapes.put(tape, i, v);
        return 1;
    }

    public long read(int tape, int i) {
        return tapes.isTape(tape) && tapes.isPlace(tape, i) ? tapes.valueAt(tape, i) : NO;
    }

    public int shift(int tape, int i, int other, int j, int n) {
        if (!tapes.isTape(tape) || !tapes.isTape(other)) {
            return NONE;
        }
        if (tapes.isEmpty(tape) || tapes.isEmpty(other)) {
            return NOTHING;
        }
        if (tapes.sort[tape] != tapes.sort[other]) {
            return CAST;
        }
        if (!tapes.isStretch(tape, i, n) || !tapes.isStretch(other, j, n)) {
            return PLACE;
        }
        tapes.move(tape, i, other, j, n);
        return n;
    }

    // ---- helpers of the face

    private boolean isPerson(int person) {
        return person >= 0 && person < now.people.size;
    }

    private boolean isGoneWithout(int person, int n) {
        trial.startAs(now);
        trial.people.setDead(person, true);
        trial.goDays(n);
        return trial.isGone();
    }

    /** WAS (numbers for THANKS) and CAN (numbers for v) are the same search. */
    private int fitting(int person, int what, boolean asThanks) {
        if (!isPerson(person) || !isWithin(what, 0, 1)) {
            return NONE;
        }
        int last = asThanks ? MOST_GUESS : MOST_V;
        int many = 0;
        int least = NEVER;
        for (int number = 0; number <= last; number++) {
            trial.startAs(now);
            if (asThanks) {
                trial.people.thanks[person] = number;
            } else {
                trial.people.v[person] = number;
            }
            if (trial.faresAs(now.seen)) {
                least = many == 0 ? number : least;
                many++;
            }
        }
        return what == 0 ? many : least;
    }

    private static boolean isWithin(int n, int least, int most) {
        return n >= least && n <= most;
    }

    private static int between(int n, int least, int most) {
        return Math.max(least, Math.min(most, n));
    }

    private static boolean isUnder(int kind, int k) {
        int at = kind;
        for (int step = 0; step < KINDS && isWithin(at, 0, KINDS - 1); step++) {
            if (at == k) {
                return true;
            }
            at = ABOVE[at];
        }
        return false;
    }

    /** A part of above/below in lowest terms; below is 6 at most, so trying each divisor is short. */
    private static long lowest(int above, int below, int part) {
        if (!isWithin(part, 0, 1)) {
            return NO;
        }
        int whole = part == 0 ? above : below;
        for (int divisor = below; divisor > 1; divisor--) {
            if (above % divisor == 0 && below % divisor == 0) {
                return whole / divisor;
            }
        }
        return whole;
    }

    /** PEOPLE with all that is theirs. */
    private static final class People {
        int size;
        final int[] number = new int[MOST_PEOPLE];
        final int[] kind = new int[MOST_PEOPLE];
        final int[] v = new int[MOST_PEOPLE];
        final int[] thanks = new int[MOST_PEOPLE];
        final int[] got = new int[MOST_PEOPLE];
        final int[] rows = new int[MOST_PEOPLE * ROW_PARTS];
        private int deadBits;

        People() {
            for (int person = 0; person < MOST_PEOPLE; person++) {
                number[person] = person;
            }
        }

        int join(int itsKind, int itsV, int itsThanks) {
            int person = size;
            if (person >= MOST_PEOPLE) {
                return FULL;
            }
            kind[person] = itsKind;
            v[person] = itsV;
            thanks[person] = itsThanks;
            got[person] = 0;
            for (int part = 0; part < ROW_PARTS; part++) {
                rows[person * ROW_PARTS + part] = 0;
            }
            setDead(person, false);
            size++;
            return person;
        }

        boolean isDead(int person) {
            return ((deadBits >> person) & 1) != 0;
        }

        void setDead(int person, boolean is) {
            deadBits = is ? deadBits | (1 << person) : deadBits & ~(1 << person);
        }

        int thanksFor(int person, int gold) {
            switch (kind[person]) {
                case FEARFUL:
                case HIRED:
                    return gold / 2;
                case GREEDY:
                case TOLD:
                    return gold + v[person];
                default:
                    return gold;
            }
        }

        void give(int person, int gold) {
            got[person] = Math.min(MOST_GOT, got[person] + gold);
            thanks[person] = Math.min(MOST_THANKS, thanks[person] + thanksFor(person, gold));
        }

        void forgetSome() {
            for (int person = 0; person < size; person++) {
                thanks[person] = Math.max(0, thanks[person] - 1);
            }
        }

        void becomeLike(People other) {
            size = other.size;
            deadBits = other.deadBits;
            System.arraycopy(other.kind, 0, kind, 0, MOST_PEOPLE);
            System.arraycopy(other.v, 0, v, 0, MOST_PEOPLE);
            System.arraycopy(other.thanks, 0, thanks, 0, MOST_PEOPLE);
            System.arraycopy(other.got, 0, got, 0, MOST_PEOPLE);
            System.arraycopy(other.rows, 0, rows, 0, MOST_PEOPLE * ROW_PARTS);
        }
    }

    /** All that THE IMAGE holds; the days go in it. */
    private static final class World {
        final People people = new People();
        int health = FIRST_HEALTH;
        int smell;
        int day;
        final int[] round = new int[MOST_PLACES];
        int places;
        private Land land;
        /** COLD, POCKET and STINK stand here too, so that a trial can take others than the LAND's. */
        int cold;
        int pocket;
        int stink;
        /** WELCOME of each, as letIn() last found it. */
        final int[] welcome = new int[MOST_PEOPLE];
        final Pairs seen = new Pairs(MOST_SEEN);
        final Pairs winter = new Pairs(MOST_WINTER);
        final Pairs book = new Pairs(MOST_BOOK);

        World(Land bare) {
            settle(bare);
        }

        boolean isGone() {
            return health <= 0;
        }

        void settle(Land next) {
            land = next;
            cold = next.cold;
            pocket = next.pocket;
            stink = next.stink;
        }

        /** Who LETS him in, as bits; WELCOME of each is found on the way. */
        int letIn() {
            for (int person = 0; person < people.size; person++) {
                welcome[person] = people.thanks[person] - smell / 10;
            }
            for (int clause = 0; clause < land.doorClauses; clause++) {
                int held = land.holdsFor(clause, people, smell, day);
                for (int person = 0; person < people.size; person++) {
                    welcome[person] += ((held >> person) & 1) * land.weight[clause];
                }
            }
            int bits = 0;
            for (int person = 0; person < people.size; person++) {
                boolean afraid = people.kind[person] == FEARFUL && smell > 100;
                if (welcome[person] >= 0 && !afraid && !people.isDead(person)) {
                    bits |= 1 << person;
                }
            }
            return bits;
        }

        int prayerOf(int person, int letBits) {
            if (people.isDead(person)) {
                return 0;
            }
            int thanks = people.thanks[person];
            int v = people.v[person];
            switch (people.kind[person]) {
                case DEVOUT:
                    return thanks / 5;
                case FEARFUL:
                    return thanks / 10 + (((letBits >> person) & 1) != 0 ? v : 0);
                case FALSE:
                    return isMultiple(day, v + 2) ? 0 : thanks / 5;
                case HIRED:
                    return thanks > 0 ? 3 : 0;
                case TOLD:
                    return thanks / 10 + people.rows[person * ROW_PARTS + day % ROW_PARTS];
                default:
                    return thanks / 10;
            }
        }

        int prayers(int letBits) {
            int together = 0;
            for (int person = 0; person < people.size; person++) {
                together += prayerOf(person, letBits);
            }
            return together;
        }

        void goDay() {
            if (isGone()) {
                return;
            }
            int letBits = letIn();
            int prayers = prayers(letBits);
            int harm = Math.max(0, cold - Integer.bitCount(letBits));
            givePocket();
            people.forgetSome();
            health = between(health + prayers - harm, 0, MOST_HEALTH);
            smell = Math.min(MOST_SMELL, smell + stink);
            day++;
        }

        void goDays(int n) {
            for (int i = 0; i < n && !isGone(); i++) {
                goDay();
            }
        }

        private void givePocket() {
            if (places <= 0) {
                return;
            }
            int person = round[day % places];
            if (isWithin(person, 0, people.size - 1) && !people.isDead(person)) {
                people.give(person, pocket);
            }
        }

        /** One row of the WINTER. */
        void suffer(int what, int person) {
            switch (what) {
                case GOES_DAY:
                    goDay();
                    break;
                case GOES_DEAD:
                    people.setDead(person, true);
                    break;
                case GOES_ILL:
                    health = Math.max(0, health - 10);
                    break;
                default:
                    smell = 0;
                    break;
            }
        }

        /** Whether all of SEEN is so as the days go from here. */
        boolean faresAs(Pairs told) {
            int last = told.mostSecond();
            for (int behind = 0; behind <= last; behind++) {
                if (behind > 0) {
                    goDay();
                }
                for (int i = 0; i < told.size; i++) {
                    if (told.second[i] == behind && told.first[i] != health) {
                        return false;
                    }
                }
            }
            return true;
        }

        /** What the days need; what is told by hand stays out, as no trial changes it. */
        void startAs(World other) {
            people.becomeLike(other.people);
            health = other.health;
            smell = other.smell;
            day = other.day;
            System.arraycopy(other.round, 0, round, 0, MOST_PLACES);
            places = other.places;
            settle(other.land);
        }

        void becomeAs(World other) {
            startAs(other);
            seen.becomeLike(other.seen);
            winter.becomeLike(other.winter);
            book.becomeLike(other.book);
        }

        private static boolean isMultiple(int n, int divisor) {
            return divisor > 0 && n % divisor == 0;
        }
    }

    /** Rows of two numbers told by hand: SEEN, the WINTER, the BOOK. */
    private static final class Pairs {
        final int[] first;
        final int[] second;
        int size;

        Pairs(int most) {
            first = new int[Math.max(0, most)];
            second = new int[Math.max(0, most)];
        }

        boolean isFull() {
            return size >= first.length;
        }

        void empty() {
            size = 0;
        }

        int put(int one, int two) {
            if (isFull()) {
                return FULL;
            }
            first[size] = one;
            second[size] = two;
            size++;
            return size;
        }

        int mostSecond() {
            int most = -1;
            for (int i = 0; i < size; i++) {
                most = Math.max(most, second[i]);
            }
            return most;
        }

        void becomeLike(Pairs other) {
            size = Math.min(other.size, first.length);
            for (int i = 0; i < size; i++) {
                first[i] = other.first[i];
                second[i] = other.second[i];
            }
        }
    }

    /** A LAND; each E is kept as a row of steps on a stack of sets of PEOPLE (bits). */
    private static final class Land {
        static final int MOST_CLAUSES = 10, MOST_STEPS = 100;
        static final int AND = -1, OR = -2, NOT = -3;
        static final int ALL = (1 << MOST_PEOPLE) - 1;
        static final int OF_NUMBER = 0, OF_KIND = 1, OF_V = 2, OF_THANKS = 3, OF_SMELL = 4;
        static final int BELOW = 0, EQUAL = 1;

        int cold;
        int pocket;
        int stink;
        int doorClauses;
        /** How far a door opens by each clause; below 0 where it shuts. */
        final int[] weight = new int[MOST_CLAUSES];
        /** Behind which step each clause's E ends; the next one's begins there. */
        private final int[] end = new int[MOST_CLAUSES];
        /** What each step does: AND, OR, NOT, or which number of a PERSON must lie in least .. most. */
        private final int[] does = new int[MOST_STEPS];
        private final int[] least = new int[MOST_STEPS];
        private final int[] most = new int[MOST_STEPS];
        private int steps;
        /** Within four ( or ! at most two sets wait at each level, so eleven are the most. */
        private final int[] stack = new int[16];

        Land() {
            clear();
        }

        void clear() {
            cold = 5;
            pocket = 10;
            stink = 1;
            doorClauses = 0;
            steps = 0;
        }

        void addStep(int itDoes) {
            if (steps < MOST_STEPS) {
                does[steps] = itDoes;
                steps++;
            }
        }

        /** THANKS and SMELL by 10, cut, are n just when they lie in 10 n .. 10 n + 9. */
        void addTest(int letter, int sign, int n) {
            if (steps < MOST_STEPS) {
                int width = letter == OF_THANKS || letter == OF_SMELL ? 10 : 1;
                int from = n * width;
                int to = from + width - 1;
                least[steps] = sign == BELOW ? 0 : sign == EQUAL ? from : to + 1;
                most[steps] = sign == BELOW ? from - 1 : sign == EQUAL ? to : Integer.MAX_VALUE;
                does[steps] = letter;
                steps++;
            }
        }

        void addDoor(int itsWeight) {
            if (doorClauses < MOST_CLAUSES) {
                weight[doorClauses] = itsWeight;
                end[doorClauses] = steps;
                doorClauses++;
            }
        }

        /** For whom the E of a clause holds, as bits. */
        int holdsFor(int clause, People people, int smell, int day) {
            if (!isWithin(clause, 0, doorClauses - 1)) {
                return 0;
            }
            int height = 0;
            for (int i = clause == 0 ? 0 : end[clause - 1]; i < end[clause]; i++) {
                if (does[i] >= 0) {
                    if (height < stack.length) {
                        stack[height] = passTest(i, people, smell, day);
                        height++;
                    }
                } else if (does[i] == NOT) {
                    if (height > 0) {
                        stack[height - 1] ^= ALL;
                    }
                } else if (height > 1) {
                    height--;
                    int left = stack[height - 1];
                    stack[height - 1] = does[i] == AND ? left & stack[height] : left | stack[height];
                }
            }
            return height > 0 ? stack[0] : 0;
        }

        private int passTest(int step, People people, int smell, int day) {
            int low = least[step];
            int high = most[step];
            int[] values;
            switch (does[step]) {
                case OF_NUMBER:
                    values = people.number;
                    break;
                case OF_KIND:
                    values = people.kind;
                    break;
                case OF_V:
                    values = people.v;
                    break;
                case OF_THANKS:
                    values = people.thanks;
                    break;
                case OF_SMELL:
                    return smell >= low && smell <= high ? ALL : 0;
                default:
                    return day % 10 >= low && day % 10 <= high ? ALL : 0;
            }
            int bits = 0;
            for (int person = 0; person < people.size; person++) {
                if (values[person] >= low && values[person] <= high) {
                    bits |= 1 << person;
                }
            }
            return bits;
        }
    }

    /** THE TEXT, and how it becomes a LAND; a reader that says no stands at the FAULT. */
    private static final class Text {
        static final int MOST_SIGNS = 100, DEEPEST = 4, END = -1;
        static final int OPEN = 0, SHUT = 1, COLD = 2, POCKET = 3, WORDS = 5;
        /** In the order of Land's OF_NUMBER .. OF_SMELL and of its BELOW, EQUAL. */
        static final String LETTERS = "pkvtsd", SIGNS = "<=>";

        private final byte[] signs = new byte[MOST_SIGNS];
        int size;
        private int at;

        boolean isFull() {
            return size >= MOST_SIGNS;
        }

        int put(int sign) {
            if (isFull()) {
                return FULL;
            }
            signs[size] = (byte) sign;
            size++;
            return size;
        }

        /** The FAULT, or -1; THE TEXT is empty then. */
        int becomes(Land land) {
            land.clear();
            at = 0;
            boolean fits = clause(land);
            for (int n = 1; n < Land.MOST_CLAUSES && fits && at < size; n++) {
                fits = skip(';') && clause(land);
            }
            int fault = fits && at >= size ? -1 : at;
            size = 0;
            return fault;
        }

        private boolean clause(Land land) {
            int word = word();
            if (word < 0 || !skip(' ')) {
                return false;
            }
            int n = number();
            if (n < 0) {
                return false;
            }
            switch (word) {
                case OPEN:
                case SHUT:
                    if (!skip(' ') || !either(land, 0)) {
                        return false;
                    }
                    land.addDoor(word == OPEN ? n : -n);
                    return true;
                case COLD:
                    land.cold = n;
                    return true;
                case POCKET:
                    land.pocket = n;
                    return true;
                default:
                    land.stink = n;
                    return true;
            }
        }

        /** The word that stands here; where none does, the reader stands where the likest breaks off. */
        private int word() {
            int likest = 0;
            for (int word = 0; word < WORDS; word++) {
                String name = nameOf(word);
                int alike = 0;
                while (alike < name.length() && at + alike < size && signs[at + alike] == name.charAt(alike)) {
                    alike++;
                }
                if (alike == name.length()) {
                    at += alike;
                    return word;
                }
                likest = Math.max(likest, alike);
            }
            at += likest;
            return -1;
        }

        private static String nameOf(int word) {
            switch (word) {
                case OPEN:
                    return "open";
                case SHUT:
                    return "shut";
                case COLD:
                    return "cold";
                case POCKET:
                    return "pocket";
                default:
                    return "stink";
            }
        }

        /** An E, within so many ( and ! as depth says; & joins what stands by it ahead of |. */
        private boolean either(Land land, int depth) {
            boolean isAnd = false;
            boolean isOr = false;
            for (int parts = 0; parts < MOST_SIGNS; parts++) {
                if (!single(land, depth)) {
                    return false;
                }
                if (isAnd) {
                    land.addStep(Land.AND);
                }
                isAnd = skip('&');
                if (!isAnd) {
                    if (isOr) {
                        land.addStep(Land.OR);
                    }
                    isOr = skip('|');
                    if (!isOr) {
                        return true;
                    }
                }
            }
            return false;
        }

        private boolean single(Land land, int depth) {
            int sign = at < size ? signs[at] : END;
            if (sign != '!' && sign != '(') {
                return test(land);
            }
            if (depth >= DEEPEST) {
                return false;
            }
            at++;
            if (sign == '(') {
                return either(land, depth + 1) && skip(')');
            }
            if (!single(land, depth + 1)) {
                return false;
            }
            land.addStep(Land.NOT);
            return true;
        }

        private boolean test(Land land) {
            int letter = oneOf(LETTERS);
            int sign = letter < 0 ? -1 : oneOf(SIGNS);
            int n = sign < 0 ? -1 : number();
            if (n < 0) {
                return false;
            }
            land.addTest(letter, sign, n);
            return true;
        }

        private int oneOf(String those) {
            int which = at < size ? those.indexOf((char) signs[at]) : -1;
            if (which >= 0) {
                at++;
            }
            return which;
        }

        /** A number of 1 or 2 digits; -1 where none stands. */
        private int number() {
            int n = -1;
            for (int digits = 0; digits < 2 && at < size && signs[at] >= '0' && signs[at] <= '9'; digits++) {
                n = (digits == 0 ? 0 : n * 10) + signs[at] - '0';
                at++;
            }
            return n;
        }

        private boolean skip(int sign) {
            if (at >= size || signs[at] != sign) {
                return false;
            }
            at++;
            return true;
        }
    }

    /** The bodies of the ACTS, and THE TRACE of the latest. */
    private static final class Acts {
        static final int OPENS = 0, PRAYS = 1, TELLS = 2, ACTS = 3;
        static final int MOST_KEPT = 20, DEEPEST = 40;
        /** The body of each KIND for opens, prays, tells; 0 where it has none. */
        private static final int[] BODY = {
            10, 11, 12,
            0, 20, 0,
            30, 0, 0,
            0, 0, 40,
            50, 51, 0,
            0, 0, 60,
            71, 70, 0
        };

        final int[] bodies = new int[MOST_KEPT];
        int ran;
        private int number;
        private int ownKind;
        private int v;

        void forget() {
            ran = 0;
        }

        int keptBodies() {
            return Math.min(ran, MOST_KEPT);
        }

        int begin(People people, int person, int act, int x) {
            number = person;
            ownKind = people.kind[person];
            v = people.v[person];
            return go(ownKind, act, x, 0);
        }

        private static int holderOf(int kind, int act) {
            int at = kind;
            for (int step = 0; step < KINDS && at > PERSON && at < KINDS; step++) {
                if (BODY[at * ACTS + act] != 0) {
                    return at;
                }
                at = ABOVE[at];
            }
            return PERSON;
        }

        private void note(int body) {
            if (ran < MOST_KEPT) {
                bodies[ran] = body;
            }
            ran++;
        }

        /** Runs the body of this KIND, or of the next one above that has one. */
        private int go(int kind, int act, int x, int depth) {
            if (depth > DEEPEST) {
                return 0;
            }
            int holder = holderOf(kind, act);
            int above = ABOVE[holder];
            int body = BODY[holder * ACTS + act];
            int deeper = depth + 1;
            note(body);
            switch (body) {
                case 10:
                    return x + number;
                case 11:
                    return go(ownKind, OPENS, x, deeper) - v;
                case 12:
                    return go(ownKind, PRAYS, x, deeper) * 2;
                case 20:
                    return go(above, PRAYS, x, deeper) ^ 6;
                case 30:
                    return go(above, OPENS, x * 3, deeper);
                case 40:
                    return go(above, TELLS, x, deeper) + go(ownKind, PRAYS, 1, deeper);
                case 50:
                    return -go(above, OPENS, x, deeper);
                case 51:
                    return go(above, PRAYS, x + 1, deeper);
                case 60:
                    return go(above, TELLS, x - number, deeper);
                case 70:
                    return go(above, PRAYS, x, deeper) + go(above, OPENS, 2, deeper);
                case 71:
                    return go(above, OPENS, x, deeper) ^ v;
                default:
                    return 0;
            }
        }
    }

    /** TAPES 0 .. 5; every item is kept as a long, cut to its sort when it is put. */
    private static final class Tapes {
        static final int BYTES = 0, SHORTS = 1, INTS = 2, BOOLEANS = 4;
        static final int MOST_TAPES = 6, MOST_ITEMS = 60, NO_SORT = -1;

        final int[] sort = new int[MOST_TAPES];
        private final int[] length = new int[MOST_TAPES];
        private final long[] items = new long[MOST_TAPES * MOST_ITEMS];

        Tapes() {
            for (int tape = 0; tape < MOST_TAPES; tape++) {
                sort[tape] = NO_SORT;
            }
        }

        boolean isTape(int tape) {
            return tape >= 0 && tape < MOST_TAPES;
        }

        boolean isEmpty(int tape) {
            return sort[tape] == NO_SORT;
        }

        boolean isOf(int tape, int itsSort) {
            return sort[tape] == itsSort;
        }

        boolean isPlace(int tape, long i) {
            return i >= 0 && i < length[tape];
        }

        boolean isStretch(int tape, int i, int n) {
            return i >= 0 && n >= 0 && (long) i + n <= length[tape];
        }

        void drop(int tape) {
            sort[tape] = NO_SORT;
            length[tape] = 0;
        }

        void lay(int tape, int itsSort, int n) {
            sort[tape] = itsSort;
            length[tape] = between(n, 0, MOST_ITEMS);
            for (int i = 0; i < length[tape]; i++) {
                items[tape * MOST_ITEMS + i] = 0;
            }
        }

        void put(int tape, int i, long v) {
            items[tape * MOST_ITEMS + i] = cut(sort[tape], v);
        }

        private static long cut(int itsSort, long v) {
            switch (itsSort) {
                case BYTES:
                    return (byte) v;
                case SHORTS:
                    return (short) v;
                case INTS:
                    return (int) v;
                case BOOLEANS:
                    return v != 0 ? 1 : 0;
                default:
                    return v;
            }
        }

        long valueAt(int tape, int i) {
            return items[tape * MOST_ITEMS + i];
        }

        void move(int tape, int i, int other, int j, int n) {
            System.arraycopy(items, tape * MOST_ITEMS + i, items, other * MOST_ITEMS + j, n);
        }
    }
}
