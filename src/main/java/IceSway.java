/** An ice boat on a frozen cut; what each call must answer stands in the document, by promises. */
public final class IceSway {
    public static final int NONE = -1, UNKNOWN = -1000000001, OUTSIDE = -1000000002, NOT = -1000000003, FULL = -1000000004;

    private static final int BILLION = 1000000000;
    private static final int LAST_KIND = 3;
    private static final int MOST_COLD = 30;
    private static final int MOST_THAW = 60;
    private static final int MOST_ICE = 300;
    private static final int MOST_MINUTES = 999;
    private static final int MOST_NIGHTS_A_CALL = 99;
    private static final int NIGHTS_LIMIT = 9000;
    private static final int LAST_BEAT = 9;
    private static final int MOST_HORSES = 12;
    private static final int MOST_LAGGARDS = 20;
    private static final int LAST_DAY_OF_LOST = 60;
    private static final int IMAGES = 2;

    private final Text text;
    private final Boat boat;
    private final Winter now;
    private final Winter[] images;
    private final boolean[] kept;
    private final Records records;
    private final Trip trip;
    private final Yards tried;
    private final Search search;
    private int faultPlace;

    public IceSway() {
        text = new Text();
        boat = new Boat();
        now = new Winter();
        images = new Winter[IMAGES];
        for (int i = 0; i < IMAGES; i++) {
            images[i] = new Winter();
        }
        kept = new boolean[IMAGES];
        records = new Records();
        trip = new Trip();
        tried = new Yards();
        search = new Search();
        faultPlace = NONE;
    }

    // ---- the cut

    public int feed(int letter) {
        if (isOut(letter, 0, 255)) {
            return OUTSIDE;
        }
        if (text.isFull()) {
            return FULL;
        }
        text.add(letter);
        return text.length;
    }

    public int cut() {
        boolean sound = text.read();
        text.length = 0;
        faultPlace = text.faultPlace;
        if (!sound) {
            return -10 - text.faultNumber;
        }
        boat.become(text.numbers);
        now.begin(text.yardCount, text.yardKinds, text.yardIce);
        records.clearAll();
        for (int i = 0; i < IMAGES; i++) {
            kept[i] = false;
        }
        return now.yards.count;
    }

    public int fault() {
        return faultPlace;
    }

    public int told(int what) {
        if (isOut(what, 0, 17)) {
            return OUTSIDE;
        }
        if (what >= 1 && what <= Boat.NUMBERS) {
            return boat.numbers[what - 1];
        }
        switch (what) {
            case 0:
                return now.yards.count;
            case 10:
                return text.length;
            case 11:
                return now.nights;
            case 12:
                return now.beat;
            case 13:
                return boat.swayBy(now.beat, boat.laggardsTold());
            case 14:
                return forceNow();
            case 15:
                return now.yards.openSet;
            case 16:
                return records.boredCount;
            default:
                return records.entryCount;
        }
    }

    public int yard(int y, int what) {
        if (!now.yards.has(y)) {
            return UNKNOWN;
        }
        switch (what) {
            case 0:
                return now.yards.kind[y];
            case 1:
                return now.yards.ice[y];
            case 2:
                return now.yards.broken[y];
            default:
                return OUTSIDE;
        }
    }

    public int grows(int y, int c) {
        if (!now.yards.has(y)) {
            return UNKNOWN;
        }
        if (isOut(c, 0, MOST_COLD)) {
            return OUTSIDE;
        }
        return Yards.growth(now.yards.kind[y], now.yards.ice[y], c);
    }

    // ---- what is done

    public int night(int c, int n) {
        if (isOut(c, 0, MOST_COLD) || isOut(n, 1, MOST_NIGHTS_A_CALL)) {
            return OUTSIDE;
        }
        if (now.nights > NIGHTS_LIMIT) {
            return FULL;
        }
        for (int i = 0; i < n; i++) {
            now.passCold(c);
        }
        return now.yards.iceTogether();
    }

    public int thaw(int d) {
        if (isOut(d, 0, MOST_THAW)) {
            return OUTSIDE;
        }
        if (now.nights > NIGHTS_LIMIT) {
            return FULL;
        }
        now.passThaw(d);
        return now.yards.iceTogether();
    }

    public int beat(int b) {
        if (isOut(b, 1, LAST_BEAT)) {
            return OUTSIDE;
        }
        now.beat = b;
        return forceNow();
    }

    public int out(int t) {
        if (isOutOfDay(t)) {
            return OUTSIDE;
        }
        if (now.yards.count == 0) {
            return NOT;
        }
        goFromNow(t);
        now.yards.openFirst(trip.behind);
        return trip.behind;
    }

    public int drift(int n) {
        if (isOut(n, 1, MOST_NIGHTS_A_CALL)) {
            return OUTSIDE;
        }
        if (now.nights > NIGHTS_LIMIT) {
            return FULL;
        }
        for (int i = 0; i < n; i++) {
            now.passByDraws();
        }
        return now.yards.iceTogether();
    }

    // ---- tried (t 1 .. 999)

    public int today(int t, int what) {
        if (isOutOfDay(t) || isOut(what, 0, 1)) {
            return OUTSIDE;
        }
        goFromNow(t);
        return what == 0 ? trip.behind : trip.minutes;
    }

    public int bestBeat() {
        int best = 1;
        for (int b = 2; b <= LAST_BEAT; b++) {
            if (boat.forceBy(b) > boat.forceBy(best)) {
                best = b;
            }
        }
        return best;
    }

    public int laggards(int t) {
        if (isOutOfDay(t)) {
            return OUTSIDE;
        }
        for (int l = 0; l <= MOST_LAGGARDS; l++) {
            int force = Boat.forceOf(boat.horsesTold(), boat.swayBy(now.beat, l));
            if (!trip.passes(now.yards, force, boat.axeMinutes(), t)) {
                return l;
            }
        }
        return NONE;
    }

    public int horses(int t) {
        if (isOutOfDay(t)) {
            return OUTSIDE;
        }
        int sway = boat.swayBy(now.beat, boat.laggardsTold());
        for (int h = 1; h <= MOST_HORSES; h++) {
            if (trip.passes(now.yards, Boat.forceOf(h, sway), boat.axeMinutes(), t)) {
                return h;
            }
        }
        return NONE;
    }

    public int string(int t, int k) {
        if (isOutOfDay(t) || isOut(k, 1, 99)) {
            return OUTSIDE;
        }
        goFromNow(t);
        if (trip.firstBroken == NONE) {
            return NONE;
        }
        return (boat.gapMinutes() - 1) / k;
    }

    public int turn(int t) {
        if (isOutOfDay(t)) {
            return OUTSIDE;
        }
        goFromNow(t);
        return trip.furthestTurn(t, boat.gapMinutes());
    }

    public int plan(int n, int t, int c, int what) {
        if (isOut(n, 1, Search.MOST_LEVELS) || isOutOfDay(t) || isOut(c, 0, MOST_COLD) || isOut(what, 0, 1)) {
            return OUTSIDE;
        }
        if (now.yards.count == 0) {
            return NOT;
        }
        search.start(now, boat, n, t);
        search.findPlan(boat, c);
        return what == 0 ? search.leastCost : search.leastSet;
    }

    public int lost(int c, int t) {
        if (isOut(c, 0, MOST_COLD) || isOutOfDay(t)) {
            return OUTSIDE;
        }
        int force = forceNow();
        tried.copyFrom(now.yards);
        for (int day = 0; day <= LAST_DAY_OF_LOST; day++) {
            if (day > 0) {
                tried.freeze(c);
            }
            if (!trip.passes(tried, force, boat.axeMinutes(), t)) {
                return day;
            }
        }
        return NONE;
    }

    public int odds(int n, int c, int d, int q, int t) {
        if (isOut(n, 1, Search.MOST_LEVELS) || isOut(c, 0, MOST_COLD) || isOut(d, 0, MOST_THAW)
                || isOut(q, 0, 100) || isOutOfDay(t)) {
            return OUTSIDE;
        }
        search.start(now, boat, n, t);
        return search.findOdds(c, d, q);
    }

    public int noFall(int m, int q) {
        if (isOut(m, 0, 99) || isOut(q, 0, 1000)) {
            return OUTSIDE;
        }
        long part = BILLION;
        int steps = m * boat.horsesTold();
        for (int i = 0; i < steps; i++) {
            part = part * (1000 - q) / 1000;
        }
        return (int) part;
    }

    // ---- what was bored

    public int bore(int y, int k, int c, int v) {
        if (!now.yards.has(y)) {
            return UNKNOWN;
        }
        if (isOut(k, 0, 9) || isOut(c, 0, MOST_COLD) || isOut(v, 0, MOST_ICE)) {
            return OUTSIDE;
        }
        return records.addBored(y, k, c, v) ? records.boredCount : FULL;
    }

    public int kinds(int y) {
        if (!now.yards.has(y)) {
            return UNKNOWN;
        }
        int set = 0;
        for (int kind = 0; kind <= LAST_KIND; kind++) {
            if (records.fits(now.yards, y, kind)) {
                set |= 1 << kind;
            }
        }
        return set;
    }

    public int write(int y, int v) {
        if (!now.yards.has(y)) {
            return UNKNOWN;
        }
        if (isOut(v, 0, MOST_ICE)) {
            return OUTSIDE;
        }
        return records.addEntry(y, v) ? records.entryCount : FULL;
    }

    public int tear() {
        int both = records.boredCount + records.entryCount;
        records.clearAll();
        return both;
    }

    public int judge() {
        return records.firstWrong(now.yards);
    }

    // ---- draws, images

    public int seed(int v) {
        if (v < 0) {
            return OUTSIDE;
        }
        int before = now.drawSeed;
        now.drawSeed = v;
        return before;
    }

    public int keep(int i) {
        if (isOut(i, 0, IMAGES - 1)) {
            return UNKNOWN;
        }
        images[i].copyFrom(now);
        kept[i] = true;
        return 1;
    }

    public int goBack(int i) {
        if (isOut(i, 0, IMAGES - 1)) {
            return UNKNOWN;
        }
        if (!kept[i]) {
            return NOT;
        }
        now.copyFrom(images[i]);
        return 1;
    }

    private static boolean isOut(int value, int least, int most) {
        return value < least || value > most;
    }

    private static boolean isOutOfDay(int t) {
        return isOut(t, 1, MOST_MINUTES);
    }

    private int forceNow() {
        return boat.forceBy(now.beat);
    }

    private void goFromNow(int t) {
        trip.go(now.yards, forceNow(), boat.axeMinutes(), t);
    }

    /** The letters that were fed, and what they tell when they are read. */
    private static final class Text {
        private static final int MOST_LETTERS = 230;
        private static final int MOST_FIGURES = 3;
        private static final int MOST_YARD_ICE = 99;
        private static final int CANNOT_STAND = 1;
        private static final int BAD_NUMBER = 2;
        private static final int CLAUSE_AGAIN = 3;
        private static final int YARDS_CLAUSE = 0;
        // By clause y, b, g, c: where its numbers stand among the told ones (from FIRST up to, not with, END).
        private static final int[] FIRST = {0, 0, 4, 6};
        private static final int[] END = {0, 4, 6, 9};

        final int[] letters = new int[MOST_LETTERS];
        int length;
        final int[] numbers = new int[Boat.NUMBERS];
        final int[] yardKinds = new int[Yards.MOST];
        final int[] yardIce = new int[Yards.MOST];
        int yardCount;
        int faultNumber;
        int faultPlace = NONE;
        private int place;
        private int clausesSeen;

        boolean isFull() {
            return length >= MOST_LETTERS;
        }

        void add(int letter) {
            if (!isFull()) {
                letters[length] = letter;
                length++;
            }
        }

        boolean read() {
            place = 0;
            clausesSeen = 0;
            yardCount = 0;
            faultNumber = 0;
            faultPlace = NONE;
            for (int i = 0; i < Boat.NUMBERS; i++) {
                numbers[i] = Boat.UNTOLD[i];
            }
            skipBlanks();
            for (int i = 0; i < MOST_LETTERS && !isAtEnd(); i++) {
                if (!readClause()) {
                    return false;
                }
                skipBlanks();
            }
            return true;
        }

        private boolean readClause() {
            int clause = clauseOf(letters[place]);
            boolean yardsFirst = clausesSeen != 0 || clause == YARDS_CLAUSE;
            if (clause == NONE || !yardsFirst) {
                return failAt(place, CANNOT_STAND);
            }
            if (((clausesSeen >> clause) & 1) == 1) {
                return failAt(place, CLAUSE_AGAIN);
            }
            clausesSeen |= 1 << clause;
            place++;
            return clause == YARDS_CLAUSE ? readYards() : readNumbers(clause);
        }

        private static int clauseOf(int letter) {
            switch (letter) {
                case 'y':
                    return YARDS_CLAUSE;
                case 'b':
                    return 1;
                case 'g':
                    return 2;
                case 'c':
                    return 3;
                default:
                    return NONE;
            }
        }

        private boolean readYards() {
            for (int y = 0; y < Yards.MOST; y++) {
                if (!readYard(y)) {
                    return false;
                }
                skipBlanks();
                boolean another = yardCount < Yards.MOST && !isAtEnd() && letters[place] == ',';
                if (!another) {
                    break;
                }
                place++;
            }
            return readClauseEnd();
        }

        private boolean readYard(int y) {
            int kind = readNumber(0, LAST_KIND);
            if (kind == NONE) {
                return false;
            }
            int ice = readNumber(0, MOST_YARD_ICE);
            if (ice == NONE) {
                return false;
            }
            yardKinds[y] = kind;
            yardIce[y] = ice;
            yardCount = y + 1;
            return true;
        }

        private boolean readNumbers(int clause) {
            for (int i = FIRST[clause]; i < END[clause]; i++) {
                int number = readNumber(Boat.LEAST[i], Boat.GREATEST[i]);
                if (number == NONE) {
                    return false;
                }
                numbers[i] = number;
            }
            return readClauseEnd();
        }

        private boolean readClauseEnd() {
            skipBlanks();
            if (isAtEnd() || letters[place] != ';') {
                return failAt(place, CANNOT_STAND);
            }
            place++;
            return true;
        }

        /** The number that stands next; NONE, with the fault noted, if none may stand so. */
        private int readNumber(int least, int greatest) {
            skipBlanks();
            int start = place;
            int value = 0;
            while (place < length && isFigure(letters[place])) {
                // Further figures are a fault anyway and could overflow.
                if (place - start < MOST_FIGURES) {
                    value = 10 * value + letters[place] - '0';
                }
                place++;
            }
            if (place == start) {
                failAt(start, CANNOT_STAND);
                return NONE;
            }
            if (place - start > MOST_FIGURES || isOut(value, least, greatest)) {
                failAt(start, BAD_NUMBER);
                return NONE;
            }
            return value;
        }

        private static boolean isFigure(int letter) {
            return letter >= '0' && letter <= '9';
        }

        private void skipBlanks() {
            while (place < length && letters[place] == ' ') {
                place++;
            }
        }

        private boolean isAtEnd() {
            return place >= length;
        }

        private boolean failAt(int where, int number) {
            faultPlace = where;
            faultNumber = number;
            return false;
        }
    }

    /** What the text told beside the yards: the boat with its crew, the gap and the axes, the coal. */
    private static final class Boat {
        static final int NUMBERS = 9;
        // In the order of told(1) to told(9): H M P L, G A, S D W.
        static final int[] LEAST = {1, 0, 2, 0, 1, 0, 0, 0, 0};
        static final int[] GREATEST = {12, 20, 9, 20, 999, 99, 20, 99, 999};
        static final int[] UNTOLD = {4, 10, 4, 0, 60, 20, 3, 10, 50};

        final int[] numbers = new int[NUMBERS];

        Boat() {
            for (int i = 0; i < NUMBERS; i++) {
                numbers[i] = UNTOLD[i];
            }
        }

        void become(int[] told) {
            for (int i = 0; i < NUMBERS; i++) {
                numbers[i] = told[i];
            }
        }

        int horsesTold() {
            return numbers[0];
        }

        int laggardsTold() {
            return numbers[3];
        }

        int gapMinutes() {
            return numbers[4];
        }

        int axeMinutes() {
            return numbers[5];
        }

        int coalDays() {
            return numbers[6];
        }

        int dayCost() {
            return numbers[7];
        }

        int wantCost() {
            return numbers[8];
        }

        int swayBy(int beat, int laggards) {
            int men = Math.max(0, numbers[1] - laggards);
            int apart = Math.abs(beat - numbers[2]);
            int sway = men / 3;
            if (apart == 0) {
                sway = 3 * men;
            } else if (apart == 1) {
                sway = men;
            }
            return Math.max(0, sway - 2 * laggards);
        }

        int forceBy(int beat) {
            return forceOf(horsesTold(), swayBy(beat, laggardsTold()));
        }

        static int forceOf(int horses, int sway) {
            return 4 * horses + sway;
        }
    }

    /** The yards of the cut as they are at one time, from here to the town. */
    private static final class Yards {
        static final int MOST = 12;
        static final int PLAIN = 0;
        static final int LUMPS = 1;
        static final int LOCK = 2;
        static final int BRIDGE = 3;

        int count;
        int openSet;
        final int[] kind = new int[MOST];
        final int[] ice = new int[MOST];
        // 0 wherever the yard is not open.
        final int[] broken = new int[MOST];

        boolean has(int y) {
            return y >= 0 && y < count;
        }

        boolean isOpen(int y) {
            return ((openSet >> y) & 1) == 1;
        }

        void begin(int howMany, int[] kinds, int[] thickness) {
            count = Math.min(MOST, howMany);
            openSet = 0;
            for (int y = 0; y < count; y++) {
                kind[y] = kinds[y];
                ice[y] = thickness[y];
                broken[y] = 0;
            }
        }

        void copyFrom(Yards other) {
            count = other.count;
            openSet = other.openSet;
            for (int y = 0; y < count; y++) {
                kind[y] = other.kind[y];
                ice[y] = other.ice[y];
                broken[y] = other.broken[y];
            }
        }

        int iceTogether() {
            int sum = 0;
            for (int y = 0; y < count; y++) {
                sum += ice[y];
            }
            return sum;
        }

        static int growth(int ofKind, int thickness, int cold) {
            int divisor = 10 + thickness;
            if (divisor < 1) {
                return 0;
            }
            int plain = 20 * cold / divisor;
            if (ofKind == LUMPS) {
                return plain + plain / 2;
            }
            return ofKind == BRIDGE ? plain / 2 : plain;
        }

        static int thicker(int ofKind, int thickness, int cold) {
            return Math.min(MOST_ICE, thickness + growth(ofKind, thickness, cold));
        }

        static int kindOnceShut(int ofKind) {
            return ofKind == PLAIN ? LUMPS : ofKind;
        }

        void freeze(int cold) {
            shutOpen();
            for (int y = 0; y < count; y++) {
                ice[y] = thicker(kind[y], ice[y], cold);
            }
        }

        void melt(int thaw) {
            shutOpen();
            for (int y = 0; y < count; y++) {
                ice[y] = Math.max(0, ice[y] - thaw);
            }
        }

        private void shutOpen() {
            if (openSet == 0) {
                return;
            }
            for (int y = 0; y < count; y++) {
                if (isOpen(y)) {
                    ice[y] = broken[y] / 3;
                    kind[y] = kindOnceShut(kind[y]);
                    broken[y] = 0;
                }
            }
            openSet = 0;
        }

        void openFirst(int howMany) {
            for (int y = 0; y < howMany && y < count; y++) {
                if (ice[y] > 0) {
                    openSet |= 1 << y;
                    broken[y] = ice[y];
                    ice[y] = 0;
                }
            }
        }

        /** The ice of one yard some nights from now, if it were of another kind. */
        int iceIfOf(int ofKind, int y, int nights, int cold) {
            int grownKind = ofKind;
            int thickness = ice[y];
            if (nights > 0 && isOpen(y)) {
                grownKind = kindOnceShut(ofKind);
                thickness = broken[y] / 3;
            }
            for (int i = 0; i < nights; i++) {
                thickness = thicker(grownKind, thickness, cold);
            }
            return thickness;
        }
    }

    /** A day out, only reckoned: the yards that it goes by stay as they are. */
    private static final class Trip {
        private static final int STICKS = -1;

        int behind;
        int minutes;
        int firstBroken;
        private final int[] behindAt = new int[Yards.MOST];

        void go(Yards yards, int force, int axe, int last) {
            behind = 0;
            minutes = 0;
            firstBroken = NONE;
            for (int y = 0; y < yards.count; y++) {
                int takes = minutesThrough(yards.kind[y], yards.ice[y], force, axe);
                if (takes == STICKS || minutes + takes > last) {
                    return;
                }
                minutes += takes;
                behindAt[y] = minutes;
                behind = y + 1;
                if (firstBroken == NONE && yards.ice[y] > 0) {
                    firstBroken = y;
                }
            }
        }

        boolean passes(Yards yards, int force, int axe, int last) {
            go(yards, force, axe, last);
            return behind == yards.count;
        }

        private static int minutesThrough(int kind, int ice, int force, int axe) {
            if (ice == 0) {
                return 1;
            }
            if (force < 1 || ice > 2 * force) {
                return STICKS;
            }
            int takes = 1 + 10 * ice / force;
            if (ice > force) {
                takes = 2 * takes;
            }
            return kind == Yards.LOCK ? takes + axe : takes;
        }

        /** Of the day that was gone last: the most yards behind it with a way back in time. */
        int furthestTurn(int last, int gap) {
            for (int m = behind; m > 0; m--) {
                if (behindAt[m - 1] + m <= last && isBackInGap(m, gap)) {
                    return m;
                }
            }
            return 0;
        }

        private boolean isBackInGap(int turnedBehind, int gap) {
            if (firstBroken == NONE || firstBroken >= turnedBehind) {
                return true;
            }
            int backAt = behindAt[turnedBehind - 1] + turnedBehind - firstBroken;
            return backAt - behindAt[firstBroken] < gap;
        }
    }

    /** All that changes as days go by: what an image keeps. */
    private static final class Winter {
        private static final int FIRST_BEAT = 4;

        final Yards yards = new Yards();
        int beat = FIRST_BEAT;
        int nights;
        int drawSeed;

        void begin(int yardCount, int[] kinds, int[] ice) {
            yards.begin(yardCount, kinds, ice);
            beat = FIRST_BEAT;
            nights = 0;
        }

        void copyFrom(Winter other) {
            yards.copyFrom(other.yards);
            beat = other.beat;
            nights = other.nights;
            drawSeed = other.drawSeed;
        }

        void passCold(int cold) {
            yards.freeze(cold);
            nights++;
        }

        void passThaw(int thaw) {
            yards.melt(thaw);
            nights++;
        }

        void passByDraws() {
            if (draw(5) == 0) {
                passThaw(draw(40));
            } else {
                passCold(draw(31));
            }
        }

        private int draw(int n) {
            drawSeed = (int) ((drawSeed * 1103515245L + 12345L) & 0x7FFFFFFFL);
            return n < 1 ? 0 : (drawSeed / 65536) % n;
        }
    }

    /** What was bored, and the book. */
    private static final class Records {
        private static final int MOST_BORED = 10;
        private static final int MOST_ENTRIES = 15;

        int boredCount;
        int entryCount;
        private final int[] boredYard = new int[MOST_BORED];
        private final int[] boredNights = new int[MOST_BORED];
        private final int[] boredCold = new int[MOST_BORED];
        private final int[] boredIce = new int[MOST_BORED];
        private final int[] entryYard = new int[MOST_ENTRIES];
        private final int[] entryIce = new int[MOST_ENTRIES];

        void clearAll() {
            boredCount = 0;
            entryCount = 0;
        }

        boolean addBored(int y, int nights, int cold, int ice) {
            if (boredCount >= MOST_BORED) {
                return false;
            }
            boredYard[boredCount] = y;
            boredNights[boredCount] = nights;
            boredCold[boredCount] = cold;
            boredIce[boredCount] = ice;
            boredCount++;
            return true;
        }

        boolean addEntry(int y, int ice) {
            if (entryCount >= MOST_ENTRIES) {
                return false;
            }
            entryYard[entryCount] = y;
            entryIce[entryCount] = ice;
            entryCount++;
            return true;
        }

        boolean fits(Yards yards, int y, int kind) {
            for (int i = 0; i < boredCount; i++) {
                if (boredYard[i] == y && yards.iceIfOf(kind, y, boredNights[i], boredCold[i]) != boredIce[i]) {
                    return false;
                }
            }
            return true;
        }

        int firstWrong(Yards yards) {
            for (int i = 0; i < entryCount; i++) {
                int y = entryYard[i];
                if (yards.has(y) && yards.ice[y] != entryIce[i]) {
                    return i;
                }
            }
            return NONE;
        }
    }

    /** All ways that some days or nights can go from now; level k is how the yards are behind k of them. */
    private static final class Search {
        static final int MOST_LEVELS = 8;
        // Eight days of 99 and 999 cost far less.
        private static final int ABOVE_ALL_COSTS = BILLION;

        int leastCost;
        int leastSet;
        private final Trip trip = new Trip();
        private final Yards[] levels = new Yards[MOST_LEVELS + 1];
        private int depth;
        private int minutes;
        private int force;
        private int axe;
        private int cold;
        private int thaw;
        private int percent;
        private int coalDays;
        private int dayCost;
        private int wantCost;

        Search() {
            for (int i = 0; i <= MOST_LEVELS; i++) {
                levels[i] = new Yards();
            }
        }

        void start(Winter now, Boat boat, int n, int t) {
            levels[0].copyFrom(now.yards);
            depth = Math.min(MOST_LEVELS, n);
            minutes = t;
            force = boat.forceBy(now.beat);
            axe = boat.axeMinutes();
        }

        void findPlan(Boat boat, int c) {
            cold = c;
            coalDays = boat.coalDays();
            dayCost = boat.dayCost();
            wantCost = boat.wantCost();
            leastCost = ABOVE_ALL_COSTS;
            leastSet = 0;
            tryDay(0, coalDays, 0, 0);
        }

        private void tryDay(int day, int coal, int cost, int set) {
            // No cost is below 0, so what is dearer already stays dearer.
            if (cost > leastCost) {
                return;
            }
            if (day >= depth) {
                takeIfBetter(cost, set);
                return;
            }
            int coalLeft = Math.max(0, coal - 1);
            int costSoFar = coal > 0 ? cost : cost + wantCost;
            Yards morning = levels[day];
            Yards next = levels[day + 1];
            next.copyFrom(morning);
            next.freeze(cold);
            tryDay(day + 1, coalLeft, costSoFar, set);
            boolean through = trip.passes(morning, force, axe, minutes);
            next.copyFrom(morning);
            next.openFirst(trip.behind);
            next.freeze(cold);
            int coalThen = through ? coalDays : coalLeft;
            tryDay(day + 1, coalThen, costSoFar + dayCost, set | (1 << day));
        }

        private void takeIfBetter(int cost, int set) {
            if (cost < leastCost || (cost == leastCost && set < leastSet)) {
                leastCost = cost;
                leastSet = set;
            }
        }

        int findOdds(int c, int d, int q) {
            cold = c;
            thaw = d;
            percent = q;
            return (int) oddsOf(0, BILLION);
        }

        /** How much of a part that stands behind so many nights gets through in the end. */
        private long oddsOf(int nights, long part) {
            if (part == 0) {
                return 0;
            }
            if (nights >= depth) {
                return trip.passes(levels[nights], force, axe, minutes) ? part : 0;
            }
            Yards next = levels[nights + 1];
            long warm = part * percent / 100;
            next.copyFrom(levels[nights]);
            next.melt(thaw);
            long through = oddsOf(nights + 1, warm);
            next.copyFrom(levels[nights]);
            next.freeze(cold);
            return through + oddsOf(nights + 1, part - warm);
        }
    }
}
