public final class LieBridges {
    public static final int NONE = -6, UNKNOWN = -1, OUTSIDE = -2, STATE = -3, FULL = -4, NO = -5;
    public static final long LOST = -1000000000000000000L;

    private static final int PEOPLE = 6, ISLANDS = 6, PLANKS = 6;
    private static final int SIGNS = 60, FIRST_SIGN = 33, LAST_SIGN = 126;
    private static final int GUESSES = 3, SIGHTS = 6, IMAGES = 2;
    private static final int LONGEST_FADE = 9, LAST_RUMOUR_DAY = 30, LONGEST_WALK = 6;
    private static final int ALL = -1, NOWHERE = -1, ACCEPTED = 0;
    private static final int CLOSED = -1, TEN = 10;
    // every product of six tenths is a whole number of these parts
    private static final long WHOLE = 1000000L;

    private final Delta now;
    private final Delta[] images;
    private final Pad pad;
    private final Ways ways;
    private final Beliefs trial;
    private final int[] guesses;
    private final int[] route;

    public LieBridges() {
        now = new Delta();
        images = new Delta[IMAGES];
        pad = new Pad();
        ways = new Ways();
        trial = new Beliefs();
        guesses = new int[GUESSES];
        route = new int[LONGEST_WALK];
    }

    // ---- 1 deltas, texts

    public int plank(int plank, int island, int other, int person) {
        if (!isPlank(plank) || !isIsland(island) || !isIsland(other) || !isPerson(person) || island == other) {
            return UNKNOWN;
        }
        now.lay(plank, island, other, person);
        return 1;
    }

    public int trust(int person, int other, boolean trusts) {
        if (!isPerson(person) || !isPerson(other) || person == other) {
            return UNKNOWN;
        }
        putBit(now.trusted, person, other, trusts);
        return 1;
    }

    public int know(int person, int plank, boolean knows) {
        if (!isPerson(person) || !isPlank(plank)) {
            return UNKNOWN;
        }
        putBit(now.known, person, plank, knows);
        if (knows) {
            now.beliefs.set(plank, person, 0);
        }
        return 1;
    }

    public int fade(int v) {
        if (!within(v, 1, LONGEST_FADE)) {
            return OUTSIDE;
        }
        int before = now.fadeDays;
        now.fadeDays = v;
        return before;
    }

    public int say(int sign) {
        if (!within(sign, FIRST_SIGN, LAST_SIGN)) {
            return OUTSIDE;
        }
        return pad.add(sign) ? pad.many : FULL;
    }

    public int wipe() {
        int before = pad.many;
        pad.clear();
        return before;
    }

    public int fault() {
        return pad.read();
    }

    // ---- 2 days

    public int vain(int i) {
        int refusal = refusalOfText();
        if (refusal != ACCEPTED) {
            return refusal;
        }
        trial.become(now.beliefs);
        int many = 0;
        int found = NONE;
        for (int part = 0; part < pad.parts; part++) {
            if (!takesEffect(part, trial)) {
                found = many == i ? part : found;
                many++;
            }
        }
        return i == ALL ? many : found;
    }

    public int done() {
        int refusal = refusalOfText();
        if (refusal != ACCEPTED) {
            return refusal;
        }
        play(now.beliefs);
        int parts = pad.parts;
        pad.clear();
        return parts;
    }

    public int bears(int plank, int person) {
        if (!isPlank(plank) || !isPersonOrAll(person)) {
            return UNKNOWN;
        }
        return beliefOrLoad(now.beliefs, plank, person);
    }

    public int behind(int plank, int person) {
        if (!isPlank(plank) || !isPersonOrAll(person)) {
            return UNKNOWN;
        }
        int refusal = refusalOfText();
        if (refusal != ACCEPTED) {
            return refusal;
        }
        trial.become(now.beliefs);
        play(trial);
        return beliefOrLoad(trial, plank, person);
    }

    public int falls(int island, int planks, int many, int n, int what) {
        if (!isIsland(island)) {
            return UNKNOWN;
        }
        if (!isParty(n) || !isChoice(what) || !within(many, 0, LONGEST_WALK) || !splitRoute(planks, many)) {
            return OUTSIDE;
        }
        int here = island;
        int place = NONE;
        int reached = island;
        for (int step = 0; step < many; step++) {
            int plank = at(route, step);
            int next = now.across(plank, here);
            if (next == NOWHERE) {
                return NO;
            }
            if (place == NONE && now.beliefs.load(plank, 0) < n) {
                place = step;
            }
            reached = place == NONE ? next : reached;
            here = next;
        }
        return what == 0 ? place : reached;
    }

    // ---- 3 ways, words

    public int tellings(int from, int to, int n, int i) {
        if (!isIsland(from) || !isIsland(to)) {
            return UNKNOWN;
        }
        if (!isParty(n)) {
            return OUTSIDE;
        }
        for (int plank = 0; plank < PLANKS; plank++) {
            ways.weigh(plank, tellingsFor(plank, n));
        }
        ways.findCheapest(now, from, to);
        if (i == ALL) {
            return ways.found() ? (int) -ways.worth : NONE;
        }
        return ways.step(i);
    }

    public int stands(int from, int to, int n) {
        if (!isIsland(from) || !isIsland(to)) {
            return UNKNOWN;
        }
        if (!isParty(n)) {
            return OUTSIDE;
        }
        if (from == to) {
            return NONE;
        }
        // no belief outlives the longest fade, so the way is gone by then
        int days = 0;
        while (days < LONGEST_FADE && standsBehind(days, from, to, n)) {
            days++;
        }
        return days;
    }

    public int word(int what) {
        if (!isChoice(what)) {
            return OUTSIDE;
        }
        int first = 0;
        int most = 0;
        for (int person = 0; person < PEOPLE; person++) {
            for (int plank = 0; plank < PLANKS; plank++) {
                trial.become(now.beliefs);
                int ended = denyToAll(trial, person, plank);
                if (ended > most) {
                    most = ended;
                    first = TEN * person + plank;
                }
            }
        }
        return what == 0 ? first : most;
    }

    public int rumour(int plank, int m) {
        if (!isPlank(plank)) {
            return UNKNOWN;
        }
        if (!isParty(m)) {
            return OUTSIDE;
        }
        trial.become(now.beliefs);
        if (trial.load(plank, 0) >= m) {
            return 0;
        }
        for (int day = 1; day <= LAST_RUMOUR_DAY; day++) {
            spread(trial, plank);
            if (trial.load(plank, 0) >= m) {
                return day;
            }
            trial.fadeADay();
        }
        return NONE;
    }

    public int odds(int plank, int person, int other, int first) {
        if (!isPlank(plank) || !isPerson(person) || !isPerson(other) || person == other) {
            return UNKNOWN;
        }
        if (!isChoice(first)) {
            return OUTSIDE;
        }
        trial.become(now.beliefs);
        if (first == 0) {
            tellToAll(trial, person, plank);
            denyToAll(trial, other, plank);
        } else {
            denyToAll(trial, other, plank);
            tellToAll(trial, person, plank);
        }
        return trial.load(plank, 0);
    }

    // ---- 4 chances, what is not told, years

    public int tenths(int plank, int v) {
        if (!isPlank(plank)) {
            return UNKNOWN;
        }
        if (!within(v, 0, TEN)) {
            return OUTSIDE;
        }
        int before = at(now.holds, plank);
        put(now.holds, plank, v);
        return before;
    }

    public int safe(int from, int to, int i) {
        if (!isIsland(from) || !isIsland(to)) {
            return UNKNOWN;
        }
        findSafest(from, to);
        return ways.step(i);
    }

    public long chance(int from, int to, int part) {
        if (!isIsland(from) || !isIsland(to)) {
            return LOST + UNKNOWN;
        }
        if (!isChoice(part)) {
            return LOST + OUTSIDE;
        }
        findSafest(from, to);
        long upper = ways.found() ? ways.worth : 0;
        long shared = sharedDivisor(WHOLE, upper);
        if (shared <= 0) {
            return 0;
        }
        return part == 0 ? upper / shared : WHOLE / shared;
    }

    public int seen(int plank, int v) {
        if (!isPlank(plank)) {
            return UNKNOWN;
        }
        if (!within(v, 0, PEOPLE)) {
            return OUTSIDE;
        }
        if (now.sights >= SIGHTS) {
            return FULL;
        }
        put(now.sightPlanks, now.sights, plank);
        put(now.sightLoads, now.sights, v);
        now.sights++;
        return now.sights;
    }

    public int forget() {
        int before = now.sights;
        now.sights = 0;
        return before;
    }

    public int filled(int i) {
        if (pad.read() != NONE) {
            return NO;
        }
        int many = 0;
        int first = 0;
        int fillings = 1;
        for (int asked = 0; asked < pad.asked; asked++) {
            fillings *= PEOPLE;
        }
        for (int filling = 0; filling < fillings; filling++) {
            guess(filling);
            if (fits()) {
                first = many == 0 ? filling : first;
                many++;
            }
        }
        if (i == ALL) {
            return many;
        }
        if (many == 0 || i < 0 || i >= pad.asked) {
            return NONE;
        }
        guess(first);
        return at(guesses, i);
    }

    public int year(int seed, int m, int plank) {
        if (plank != ALL && !isPlank(plank)) {
            return UNKNOWN;
        }
        if (!within(seed, 0, 9999) || !within(m, 1, 99)) {
            return OUTSIDE;
        }
        trial.become(now.beliefs);
        int x = seed;
        int heard = 0;
        for (int telling = 1; telling <= m; telling++) {
            x = (75 * x + 74) % 65537;
            if (now.tell(trial, x % PEOPLE, x / 6 % PEOPLE, x / 36 % PLANKS)) {
                heard++;
            }
            if (telling % 10 == 0) {
                trial.fadeADay();
            }
        }
        return plank == ALL ? heard : trial.load(plank, 0);
    }

    public int image(int n) {
        if (n < 0 || n >= images.length) {
            return OUTSIDE;
        }
        Delta kept = images[n];
        if (kept == null) {
            kept = new Delta();
            images[n] = kept;
        }
        kept.become(now);
        return 1;
    }

    public int restore(int n) {
        if (n < 0 || n >= images.length) {
            return OUTSIDE;
        }
        Delta kept = images[n];
        if (kept == null) {
            return STATE;
        }
        now.become(kept);
        return 1;
    }

    public int told(int what) {
        if (what == 0) {
            return pad.many;
        }
        if (what == 1) {
            return now.fadeDays;
        }
        if (what == 2) {
            return now.sights;
        }
        int which = what % TEN;
        if (what < TEN || which >= PLANKS) {
            return OUTSIDE;
        }
        switch (what / TEN) {
            case 1:
                return at(now.trusted, which);
            case 2:
                return at(now.known, which);
            case 3:
                return 100 * at(now.layers, which) + 10 * at(now.lessers, which) + at(now.greaters, which);
            case 4:
                return at(now.holds, which);
            default:
                return OUTSIDE;
        }
    }

    // ---- what the calls share

    private static boolean within(int v, int least, int most) {
        return v >= least && v <= most;
    }

    private static boolean isPerson(int v) {
        return within(v, 0, PEOPLE - 1);
    }

    private static boolean isPersonOrAll(int v) {
        return v == ALL || isPerson(v);
    }

    private static boolean isIsland(int v) {
        return within(v, 0, ISLANDS - 1);
    }

    private static boolean isPlank(int v) {
        return within(v, 0, PLANKS - 1);
    }

    private static boolean isParty(int v) {
        return within(v, 1, PEOPLE);
    }

    private static boolean isChoice(int v) {
        return v == 0 || v == 1;
    }

    private static int at(int[] row, int i) {
        return i >= 0 && i < row.length ? row[i] : 0;
    }

    private static void put(int[] row, int i, int v) {
        if (i >= 0 && i < row.length) {
            row[i] = v;
        }
    }

    private static boolean hasBit(int[] row, int i, int bit) {
        return (at(row, i) >> bit & 1) == 1;
    }

    private static void putBit(int[] row, int i, int bit, boolean on) {
        int cleared = at(row, i) & ~(1 << bit);
        put(row, i, on ? cleared | 1 << bit : cleared);
    }

    private static void copy(int[] source, int[] target) {
        for (int i = 0; i < target.length; i++) {
            target[i] = at(source, i);
        }
    }

    private static long sharedDivisor(long greater, long lesser) {
        long a = greater;
        long b = lesser;
        // far more turns than Euclid needs for numbers up to a million
        for (int turn = 0; turn < 100 && b != 0; turn++) {
            long left = a % b;
            a = b;
            b = left;
        }
        return a;
    }

    private int refusalOfText() {
        if (pad.read() != NONE) {
            return NO;
        }
        return pad.asked > 0 ? STATE : ACCEPTED;
    }

    private static int beliefOrLoad(Beliefs beliefs, int plank, int person) {
        return person == ALL ? beliefs.load(plank, 0) : beliefs.of(plank, person);
    }

    private void play(Beliefs beliefs) {
        for (int part = 0; part < pad.parts; part++) {
            takesEffect(part, beliefs);
        }
    }

    private boolean takesEffect(int part, Beliefs beliefs) {
        int kind = at(pad.kinds, part);
        if (kind == Pad.DAY) {
            beliefs.fadeADay();
            return true;
        }
        int speaker = at(pad.speakers, part);
        if (speaker >= PEOPLE) {
            speaker = at(guesses, speaker - PEOPLE);
        }
        int hearer = at(pad.hearers, part);
        int plank = at(pad.planks, part);
        return kind == Pad.TELLING
            ? now.tell(beliefs, speaker, hearer, plank)
            : now.deny(beliefs, speaker, hearer, plank);
    }

    /** Puts the digits on the route; false: the number is below 0, or of more digits. */
    private boolean splitRoute(int planks, int many) {
        if (planks < 0) {
            return false;
        }
        int rest = planks;
        for (int step = many - 1; step >= 0; step--) {
            put(route, step, rest % TEN);
            rest /= TEN;
        }
        return rest == 0;
    }

    private void tellToAll(Beliefs beliefs, int teller, int plank) {
        for (int hearer = 0; hearer < PEOPLE; hearer++) {
            now.tell(beliefs, teller, hearer, plank);
        }
    }

    private int denyToAll(Beliefs beliefs, int denier, int plank) {
        int ended = 0;
        for (int hearer = 0; hearer < PEOPLE; hearer++) {
            if (now.deny(beliefs, denier, hearer, plank)) {
                ended++;
            }
        }
        return ended;
    }

    private void spread(Beliefs beliefs, int plank) {
        // who comes to believe now does not tell before the next day
        int tellers = 0;
        for (int person = 0; person < PEOPLE; person++) {
            if (now.mayTell(beliefs, person, plank)) {
                tellers |= 1 << person;
            }
        }
        for (int person = 0; person < PEOPLE; person++) {
            if ((tellers >> person & 1) == 1) {
                tellToAll(beliefs, person, plank);
            }
        }
    }

    /** How few tellings make a plank bear n; CLOSED: none can. */
    private int tellingsFor(int plank, int n) {
        trial.become(now.beliefs);
        int believers = trial.load(plank, 0);
        for (int round = 0; round < PEOPLE; round++) {
            spread(trial, plank);
        }
        if (trial.load(plank, 0) < n) {
            return CLOSED;
        }
        // each telling that is not in vain adds just one who believes
        return believers < n ? n - believers : 0;
    }

    private boolean standsBehind(int days, int from, int to, int n) {
        for (int plank = 0; plank < PLANKS; plank++) {
            ways.weigh(plank, now.beliefs.load(plank, days) >= n ? 0 : CLOSED);
        }
        ways.findCheapest(now, from, to);
        return ways.found();
    }

    private void findSafest(int from, int to) {
        for (int plank = 0; plank < PLANKS; plank++) {
            ways.weigh(plank, at(now.holds, plank));
        }
        ways.findLikeliest(now, from, to);
    }

    /** Sets who speaks at each ?; a greater filling is later by letters. */
    private void guess(int filling) {
        int rest = filling;
        for (int asked = pad.asked - 1; asked >= 0; asked--) {
            put(guesses, asked, rest % PEOPLE);
            rest /= PEOPLE;
        }
    }

    private boolean fits() {
        trial.become(now.beliefs);
        for (int part = 0; part < pad.parts; part++) {
            if (!takesEffect(part, trial)) {
                return false;
            }
        }
        for (int sight = 0; sight < now.sights; sight++) {
            if (trial.load(at(now.sightPlanks, sight), 0) != at(now.sightLoads, sight)) {
                return false;
            }
        }
        return true;
    }

    /** For how many days still each person believes in each plank. */
    private static final class Beliefs {
        private final int[] days = new int[PLANKS * PEOPLE];

        int of(int plank, int person) {
            int i = plank * PEOPLE + person;
            return i >= 0 && i < days.length ? days[i] : 0;
        }

        void set(int plank, int person, int v) {
            put(days, plank * PEOPLE + person, v);
        }

        /** How many believe in a plank when so many days have gone by. */
        int load(int plank, int gone) {
            int many = 0;
            for (int person = 0; person < PEOPLE; person++) {
                if (of(plank, person) > gone) {
                    many++;
                }
            }
            return many;
        }

        void fadeADay() {
            for (int i = 0; i < days.length; i++) {
                if (days[i] > 0) {
                    days[i]--;
                }
            }
        }

        void become(Beliefs other) {
            copy(other.days, days);
        }
    }

    /** All that an image keeps. */
    private static final class Delta {
        final int[] lessers = new int[PLANKS];
        final int[] greaters = new int[PLANKS];
        final int[] layers = new int[PLANKS];
        final int[] holds = new int[PLANKS];
        final int[] trusted = new int[PEOPLE];
        final int[] known = new int[PEOPLE];
        final int[] sightPlanks = new int[SIGHTS];
        final int[] sightLoads = new int[SIGHTS];
        final Beliefs beliefs = new Beliefs();
        int fadeDays = 3;
        int sights;

        Delta() {
            for (int plank = 0; plank < PLANKS; plank++) {
                lay(plank, plank, (plank + 1) % ISLANDS, plank);
                put(holds, plank, 5);
            }
        }

        void lay(int plank, int island, int other, int person) {
            put(lessers, plank, island < other ? island : other);
            put(greaters, plank, island < other ? other : island);
            put(layers, plank, person);
            for (int each = 0; each < PEOPLE; each++) {
                beliefs.set(plank, each, 0);
                putBit(known, each, plank, false);
            }
        }

        boolean mayTell(Beliefs held, int person, int plank) {
            return at(layers, plank) == person || held.of(plank, person) > 0;
        }

        /** False: in vain, as it is to oneself, for nobody trusts himself. */
        boolean tell(Beliefs held, int teller, int hearer, int plank) {
            boolean believed = mayTell(held, teller, plank)
                && hasBit(trusted, hearer, teller)
                && at(layers, plank) != hearer
                && !hasBit(known, hearer, plank)
                && held.of(plank, hearer) == 0;
            if (believed) {
                held.set(plank, hearer, fadeDays);
            }
            return believed;
        }

        /** False: in vain, as it is to oneself, for nobody trusts himself. */
        boolean deny(Beliefs held, int denier, int hearer, int plank) {
            boolean believed = hasBit(trusted, hearer, denier) && held.of(plank, hearer) > 0;
            if (believed) {
                held.set(plank, hearer, 0);
            }
            return believed;
        }

        /** The island at the other end; NOWHERE: there is no such plank, or it is not beside. */
        int across(int plank, int island) {
            if (!within(plank, 0, PLANKS - 1)) {
                return NOWHERE;
            }
            if (at(lessers, plank) == island) {
                return at(greaters, plank);
            }
            return at(greaters, plank) == island ? at(lessers, plank) : NOWHERE;
        }

        void become(Delta other) {
            copy(other.lessers, lessers);
            copy(other.greaters, greaters);
            copy(other.layers, layers);
            copy(other.holds, holds);
            copy(other.trusted, trusted);
            copy(other.known, known);
            copy(other.sightPlanks, sightPlanks);
            copy(other.sightLoads, sightLoads);
            beliefs.become(other.beliefs);
            fadeDays = other.fadeDays;
            sights = other.sights;
        }
    }

    /** The signs of a text, and the parts that were last read from them. */
    private static final class Pad {
        static final int DAY = 0, TELLING = 1, DENIAL = 2;
        // what a sign may be: the start of a part, a hearer, a plank or its -, a plank
        private static final int START = 0, HEARER = 1, MATTER = 2, PLANK = 3, BROKEN = 4;

        private final int[] signs = new int[SIGNS];
        int many;
        final int[] kinds = new int[SIGNS];
        // PEOPLE and more: who speaks at the first ?, the second, ..
        final int[] speakers = new int[SIGNS];
        final int[] hearers = new int[SIGNS];
        final int[] planks = new int[SIGNS];
        int parts;
        int asked;

        boolean add(int sign) {
            if (many >= SIGNS) {
                return false;
            }
            put(signs, many, sign);
            many++;
            return true;
        }

        void clear() {
            many = 0;
        }

        /** Reads the parts; the fault, or NONE. */
        int read() {
            parts = 0;
            asked = 0;
            int stand = START;
            for (int place = 0; place < many; place++) {
                stand = take(stand, at(signs, place));
                if (stand == BROKEN) {
                    return place;
                }
            }
            return stand == START ? NONE : many;
        }

        private int take(int stand, int sign) {
            switch (stand) {
                case START:
                    return sign == '.' ? takeDay() : takeSpeaker(sign);
                case HEARER:
                    return takeHearer(sign - 'A');
                case MATTER:
                    return sign == '-' ? takeDenial() : takePlank(sign - '0');
                default:
                    return takePlank(sign - '0');
            }
        }

        private int takeDay() {
            put(kinds, parts, DAY);
            parts++;
            return START;
        }

        private int takeSpeaker(int sign) {
            int speaker = sign - 'A';
            if (sign == '?' && asked < GUESSES) {
                speaker = PEOPLE + asked;
                asked++;
            } else if (!isPerson(speaker)) {
                return BROKEN;
            }
            put(kinds, parts, TELLING);
            put(speakers, parts, speaker);
            return HEARER;
        }

        private int takeHearer(int hearer) {
            if (!isPerson(hearer) || hearer == at(speakers, parts)) {
                return BROKEN;
            }
            put(hearers, parts, hearer);
            return MATTER;
        }

        private int takeDenial() {
            put(kinds, parts, DENIAL);
            return PLANK;
        }

        private int takePlank(int plank) {
            if (!isPlank(plank)) {
                return BROKEN;
            }
            put(planks, parts, plank);
            parts++;
            return START;
        }
    }

    /** The best way from an island to another one, by what each plank weighs. */
    private static final class Ways {
        private final int[] weights = new int[PLANKS];
        private final int[] trodden = new int[ISLANDS];
        private final int[] best = new int[ISLANDS];
        private boolean likeliest;
        private int goal;
        private int length;
        long worth;

        /** CLOSED: no way goes over the plank. */
        void weigh(int plank, int weight) {
            put(weights, plank, weight);
        }

        /** The way of the least sum of weights; its worth is that sum below 0. */
        void findCheapest(Delta delta, int from, int to) {
            likeliest = false;
            find(delta, from, to, 0);
        }

        /** The way of the greatest product of weights in tenths; its worth is that part of WHOLE. */
        void findLikeliest(Delta delta, int from, int to) {
            likeliest = true;
            find(delta, from, to, WHOLE);
        }

        boolean found() {
            return length != NONE;
        }

        int step(int i) {
            return i >= 0 && i < length ? at(best, i) : NONE;
        }

        private void find(Delta delta, int from, int to, long start) {
            goal = to;
            length = NONE;
            worth = 0;
            walk(delta, from, 0, 1 << from, start);
        }

        // an island trodden twice never makes a way worth more, only longer
        private void walk(Delta delta, int island, int depth, int seen, long value) {
            if (island == goal) {
                keepIfBetter(depth, value);
                return;
            }
            if (depth >= ISLANDS - 1) {
                return;
            }
            for (int plank = 0; plank < PLANKS; plank++) {
                tread(delta, plank, island, depth, seen, value);
            }
        }

        private void tread(Delta delta, int plank, int island, int depth, int seen, long value) {
            int next = delta.across(plank, island);
            int weight = at(weights, plank);
            if (next == NOWHERE || weight == CLOSED || (seen >> next & 1) == 1) {
                return;
            }
            put(trodden, depth, plank);
            long further = likeliest ? value * weight / TEN : value - weight;
            walk(delta, next, depth + 1, seen | 1 << next, further);
        }

        // ways come in the order of their planks, so of equals the first one stays
        private void keepIfBetter(int depth, long value) {
            if (found() && (value < worth || value == worth && depth >= length)) {
                return;
            }
            length = depth;
            worth = value;
            copy(trodden, best);
        }
    }
}
