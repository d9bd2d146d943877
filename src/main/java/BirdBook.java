import java.util.Arrays;

/** A station that rings birds and sees some again; ../shared/DOC.md tells what each call promises. */
public final class BirdBook {
    public static final int NONE = -1;

    private static final int LAST_DAY = 14600;
    private static final int LAST_SIGN = 99;
    private static final int GREATEST_AGE_RULE = 5000;
    private static final int LEGS = 4;
    private static final int HALVES = 2;
    private static final int MOST_RINGS = 60;
    private static final int MOST_JOINS = 60;
    private static final int MOST_RECORDS = 300;
    private static final int MOST_LISTED = 16;
    private static final int GREATEST_WEIGHT = 4000;
    private static final int FIRST_SIGN_ASKED = 10;

    private static final int CATCH = 0;
    private static final int SIGHT = 1;
    private static final int PAIR = 2;
    private static final int NEST = 3;
    private static final int FOUND = 4;
    private static final int NOTE = 5;

    private static final int DONE = 0;
    private static final int NO_SUCH = -2;
    private static final int NOT_AS_WANTED = -3;
    private static final int ALREADY = -4;
    private static final int NOT_OPEN = -5;
    private static final int OUTSIDE = -6;
    private static final int OTHER_WIDTH = -7;
    private static final int FULL = -8;
    private static final int WRONG = -9;

    private static final int ALIVE_NO = 0;
    private static final int ALIVE_YES = 1;
    private static final int ALIVE_MAYBE = 2;

    private final Reading reading;
    private final Rings rings;
    private final Joins joins;
    private final Records records;
    private final Birds birds;
    private final Kin kin;
    private final Listing listing;
    private final Spans spans;
    private final Rows rows;
    private int age;
    private int greatest;

    public BirdBook() {
        reading = new Reading();
        rings = new Rings();
        joins = new Joins();
        records = new Records();
        birds = new Birds(rings, joins, records);
        kin = new Kin(birds, records);
        listing = new Listing(birds);
        spans = new Spans();
        rows = new Rows();
        age = 365;
        greatest = 5475;
    }

    public boolean rule(int age, int greatest) {
        boolean allowed = rings.size == 0 && age >= 0 && age <= GREATEST_AGE_RULE
                && greatest >= 1 && greatest <= LAST_DAY;
        if (allowed) {
            this.age = age;
            this.greatest = greatest;
        }
        return allowed;
    }

    public boolean read(int half, int leg, int sign) {
        if (half < 0 || half >= HALVES || leg < 0 || leg >= LEGS || sign < NONE || sign > LAST_SIGN) {
            return false;
        }
        reading.signs[half * LEGS + leg] = sign;
        return true;
    }

    public int ring(int day, int hatched) {
        int answer = ringingRefusal(day, hatched);
        if (answer == DONE) {
            answer = rings.add(reading.signs, day, hatched);
            settle();
        }
        reading.forget();
        return answer;
    }

    public int lose(int ring, int day) {
        if (!rings.has(ring) || !isDay(day)) {
            return NO_SUCH;
        }
        if (rings.put[ring] > day) {
            return NOT_AS_WANTED;
        }
        if (rings.lost[ring] != NONE) {
            return ALREADY;
        }
        rings.lost[ring] = day;
        settle();
        return DONE;
    }

    public int join(int a, int b) {
        int refusal = joiningRefusal(a, b);
        if (refusal != DONE) {
            return refusal;
        }
        // One place more than the limit is kept, as WRONG is told ahead of FULL.
        int number = joins.add(a, b);
        settle();
        boolean wrong = kin.isWrong(age);
        if (!wrong && number < MOST_JOINS) {
            return number;
        }
        joins.size--;
        settle();
        return wrong ? WRONG : FULL;
    }

    public int part(int join) {
        if (join < 0 || join >= joins.size) {
            return NO_SUCH;
        }
        if (joins.parted[join]) {
            return ALREADY;
        }
        joins.parted[join] = true;
        settle();
        if (!kin.isWrong(age)) {
            return DONE;
        }
        joins.parted[join] = false;
        settle();
        return WRONG;
    }

    public int caught(int day, float weight) {
        // Asked this way round, a weight that is no number is refused too.
        boolean weighed = weight >= 0f && weight <= GREATEST_WEIGHT;
        int answer = weighed ? recordingRefusal(CATCH, day) : NO_SUCH;
        if (answer == DONE) {
            answer = keep(CATCH, day, (int) (weight * 10f));
        }
        reading.forget();
        return answer;
    }

    public int sight(int day) {
        return keepPlain(SIGHT, day);
    }

    public int pair(int day) {
        return keepPlain(PAIR, day);
    }

    public int nest(int day, int young) {
        int answer = rings.has(young) ? recordingRefusal(NEST, day) : NO_SUCH;
        if (answer == DONE) {
            answer = keepNest(day, young);
        }
        reading.forget();
        return answer;
    }

    public int found(int day) {
        int answer = keepPlain(FOUND, day);
        if (answer >= 0) {
            settle();
        }
        return answer;
    }

    public int note(long v) {
        if (records.size >= MOST_RECORDS) {
            return FULL;
        }
        records.draft(NOTE, NONE, NONE);
        records.number[records.size] = v;
        return records.keepDraft();
    }

    public int fits(int record, int half) {
        return records.hasHalf(record, half) ? Long.bitCount(birds.fitting(record, half)) : NO_SUCH;
    }

    public int who(int record, int half, int i) {
        return records.hasHalf(record, half) ? nthOf(birds.fitting(record, half), i) : NONE;
    }

    public int nearest(int record, int half) {
        return records.hasHalf(record, half) ? birds.likest(record, half) : NONE;
    }

    public int bird(int ring) {
        return rings.has(ring) ? birds.birdOf[ring] : NONE;
    }

    public int death(int ring) {
        return rings.has(ring) ? birds.died[birds.birdOf[ring]] : NONE;
    }

    public int alive(int ring, int day) {
        return rings.has(ring) && isDay(day) ? birds.livingOn(birds.birdOf[ring], day, greatest) : NONE;
    }

    public int parent(int ring, int i) {
        return rings.has(ring) ? nthOf(kin.parents[birds.birdOf[ring]], i) : NONE;
    }

    public boolean forebear(int a, int b) {
        return rings.has(a) && rings.has(b) && isIn(kin.forebears[birds.birdOf[b]], birds.birdOf[a]);
    }

    public int list(int record, int half) {
        if (!records.hasHalf(record, half)) {
            return NO_SUCH;
        }
        if (birds.fitting(record, half) == 0) {
            return NOT_OPEN;
        }
        if (listing.hasRecord(record)) {
            return ALREADY;
        }
        return listing.size < MOST_LISTED ? listing.add(record, half) : FULL;
    }

    public int empty() {
        int had = listing.size;
        listing.size = 0;
        return had;
    }

    public int least() {
        return listing.prepare() ? listing.fewestBirds() : NONE;
    }

    public int most() {
        return listing.prepare() ? listing.mostBirds() : NONE;
    }

    public int given(int i) {
        if (i < 0 || i >= listing.size || !listing.prepare()) {
            return NONE;
        }
        listing.choose(listing.fewestBirds());
        return listing.chosen[i];
    }

    public int there(int a, int b, int e, int what) {
        if (!isDay(a) || !isDay(b) || !isDay(e) || b <= a || e < b) {
            return NONE;
        }
        long ringedBirds = birds.ringedBy(a, b);
        long takenBirds = birds.takenIn(b, e);
        int n = Long.bitCount(ringedBirds);
        int c = Long.bitCount(takenBirds);
        int r = Long.bitCount(ringedBirds & takenBirds);
        switch (what) {
            case 0:
                return n;
            case 1:
                return c;
            case 2:
                return r;
            case 3:
                return r > 0 ? n * c / r : n + c;
            default:
                return NONE;
        }
    }

    public int low(int n, int c, int r, int num, int den) {
        return spans.take(n, c, r, num, den) ? spans.leastWhole() : NONE;
    }

    public int high(int n, int c, int r, int num, int den) {
        return spans.take(n, c, r, num, den) ? spans.greatestWhole() : NONE;
    }

    public int record(int record, int what) {
        if (!records.has(record)) {
            return NONE;
        }
        switch (what) {
            case 0:
                return records.kind[record];
            case 1:
                return records.day[record];
            case 2:
                return records.kind[record] == CATCH ? records.extra[record] : NONE;
            case 3:
                return records.kind[record] == NEST ? records.extra[record] : NONE;
            case 4:
                return records.told[record * HALVES];
            case 5:
                return records.told[record * HALVES + 1];
            case 6:
                return records.halvesOf(record);
            default:
                return signAsked(record, what - FIRST_SIGN_ASKED);
        }
    }

    public long noted(int record) {
        return records.has(record) && records.kind[record] == NOTE ? records.number[record] : 0L;
    }

    public int watch(int day, int width, int n) {
        return rows.open(day, width, n);
    }

    public boolean tear(int day) {
        return rows.drop(day);
    }

    public int tally(int day, int i, long v) {
        return rows.more(day, i, v);
    }

    public long tallied(int day, int i) {
        return rows.numberAt(day, i);
    }

    public int copy(int day, int i, int other, int j, int n) {
        return rows.carry(day, i, other, j, n);
    }

    public int count(int what) {
        switch (what) {
            case 0:
                return rings.size;
            case 1:
                return records.size;
            case 2:
                return joins.size;
            case 3:
                return birds.howMany();
            case 4:
                return birds.howManyDied();
            case 5:
                return listing.size;
            default:
                return what >= 10 ? ringAsked(what / 10 - 1, what % 10) : NONE;
        }
    }

    private static boolean isDay(int day) {
        return day >= 0 && day <= LAST_DAY;
    }

    private static boolean isIn(long set, int bird) {
        return (set >> bird & 1L) == 1L;
    }

    private static int nthOf(long set, int i) {
        int left = i;
        for (int bird = 0; bird < MOST_RINGS; bird++) {
            if (isIn(set, bird)) {
                if (left == 0) {
                    return bird;
                }
                left--;
            }
        }
        return NONE;
    }

    /** All that follows from RINGS, JOINS and RECORDS is reckoned anew, so that no answer can be of an older state. */
    private void settle() {
        birds.gather();
        kin.gather();
    }

    private int ringingRefusal(int day, int hatched) {
        if (!isDay(day)) {
            return NO_SUCH;
        }
        if (hatched != NONE && (!isDay(hatched) || hatched > day || hatched < day - greatest)) {
            return NO_SUCH;
        }
        if (reading.readIn(0) != LEGS || reading.readIn(1) != 0) {
            return NOT_AS_WANTED;
        }
        if (rings.hasSigns(reading.signs)) {
            return ALREADY;
        }
        return rings.size < MOST_RINGS ? DONE : FULL;
    }

    private int joiningRefusal(int a, int b) {
        if (!rings.has(a) || !rings.has(b)) {
            return NO_SUCH;
        }
        int first = birds.birdOf[a];
        int second = birds.birdOf[b];
        if (first == second) {
            return ALREADY;
        }
        if (rings.lost[a] == NONE || rings.put[b] < rings.lost[a]) {
            return NOT_AS_WANTED;
        }
        return birds.diedAheadOfRing(first, second) || birds.diedAheadOfRing(second, first) ? NOT_OPEN : DONE;
    }

    private int recordingRefusal(int kind, int day) {
        if (!isDay(day)) {
            return NO_SUCH;
        }
        if (!reading.suits(kind)) {
            return NOT_AS_WANTED;
        }
        return records.size < MOST_RECORDS ? DONE : FULL;
    }

    private int keepPlain(int kind, int day) {
        int answer = recordingRefusal(kind, day);
        if (answer == DONE) {
            answer = keep(kind, day, NONE);
        }
        reading.forget();
        return answer;
    }

    private int keep(int kind, int day, int extra) {
        records.draft(kind, day, extra);
        records.draftSigns(reading.signs);
        return records.keepDraft();
    }

    /** The NEST stands as a draft while it is asked, so that its HALVES are asked as all others are. */
    private int keepNest(int day, int young) {
        int slot = records.size;
        records.draft(NEST, day, young);
        records.draftSigns(reading.signs);
        int first = birds.sureRing(slot, 0);
        int second = birds.sureRing(slot, 1);
        if (first == NONE || second == NONE) {
            return NOT_OPEN;
        }
        if (birds.birdOf[first] == birds.birdOf[second]) {
            return ALREADY;
        }
        records.told[slot * HALVES] = first;
        records.told[slot * HALVES + 1] = second;
        records.keepDraft();
        kin.gather();
        if (!kin.isWrong(age)) {
            return slot;
        }
        records.size--;
        kin.gather();
        return WRONG;
    }

    private int signAsked(int record, int place) {
        if (place < 0 || place >= HALVES * LEGS || !records.hasHalf(record, place / LEGS)) {
            return NONE;
        }
        return records.signs[record * HALVES * LEGS + place];
    }

    private int ringAsked(int ring, int what) {
        if (!rings.has(ring)) {
            return NONE;
        }
        switch (what) {
            case 0:
                return rings.put[ring];
            case 1:
                return rings.hatched[ring];
            case 2:
                return rings.lost[ring];
            default:
                return what >= 3 && what < 3 + LEGS ? rings.signs[ring * LEGS + what - 3] : NONE;
        }
    }

    /** What was read since the last RING or RECORD. */
    private static final class Reading {
        final int[] signs = new int[HALVES * LEGS];

        Reading() {
            Arrays.fill(signs, NONE);
        }

        void forget() {
            Arrays.fill(signs, NONE);
        }

        int readIn(int half) {
            int read = 0;
            for (int leg = 0; leg < LEGS; leg++) {
                if (signs[half * LEGS + leg] != NONE) {
                    read++;
                }
            }
            return read;
        }

        boolean suits(int kind) {
            int first = readIn(0);
            int second = readIn(1);
            switch (kind) {
                case CATCH:
                case FOUND:
                    return first == LEGS && second == 0;
                case SIGHT:
                    return first > 0 && second == 0;
                default:
                    return first > 0 && second > 0;
            }
        }
    }

    private static final class Rings {
        int size;
        final int[] signs = new int[MOST_RINGS * LEGS];
        final int[] put = new int[MOST_RINGS];
        final int[] hatched = new int[MOST_RINGS];
        final int[] lost = new int[MOST_RINGS];

        boolean has(int ring) {
            return ring >= 0 && ring < size;
        }

        boolean hasSigns(int[] read) {
            for (int ring = 0; ring < size; ring++) {
                if (unlike(ring, read, 0) == 0) {
                    return true;
                }
            }
            return false;
        }

        int add(int[] read, int day, int hatchedOn) {
            int ring = size;
            System.arraycopy(read, 0, signs, ring * LEGS, LEGS);
            put[ring] = day;
            hatched[ring] = hatchedOn;
            lost[ring] = NONE;
            size++;
            return ring;
        }

        /** How many of the SIGNS that were read (they stand from a place on) are not the RING's. */
        int unlike(int ring, int[] read, int from) {
            int unlike = 0;
            for (int leg = 0; leg < LEGS; leg++) {
                int sign = read[from + leg];
                if (sign != NONE && sign != signs[ring * LEGS + leg]) {
                    unlike++;
                }
            }
            return unlike;
        }

        boolean wornOn(int ring, int day) {
            return put[ring] <= day && (lost[ring] == NONE || lost[ring] >= day);
        }
    }

    private static final class Joins {
        int size;
        final int[] first = new int[MOST_JOINS + 1];
        final int[] second = new int[MOST_JOINS + 1];
        final boolean[] parted = new boolean[MOST_JOINS + 1];

        int add(int a, int b) {
            first[size] = a;
            second[size] = b;
            parted[size] = false;
            size++;
            return size - 1;
        }
    }

    /** The RECORDS, and behind the last of them one draft that is not kept yet. */
    private static final class Records {
        int size;
        final int[] kind = new int[MOST_RECORDS];
        final int[] day = new int[MOST_RECORDS];
        /** A CATCH's weight, a NEST's young. */
        final int[] extra = new int[MOST_RECORDS];
        final int[] told = new int[MOST_RECORDS * HALVES];
        final int[] signs = new int[MOST_RECORDS * HALVES * LEGS];
        final long[] number = new long[MOST_RECORDS];

        boolean has(int record) {
            return record >= 0 && record < size;
        }

        boolean hasHalf(int record, int half) {
            return has(record) && half >= 0 && half < halvesOf(record);
        }

        int halvesOf(int record) {
            switch (kind[record]) {
                case PAIR:
                case NEST:
                    return 2;
                case NOTE:
                    return 0;
                default:
                    return 1;
            }
        }

        int signsFrom(int record, int half) {
            return (record * HALVES + half) * LEGS;
        }

        /** One SIGN of a hurried look may be misread, if another one was read too (they stand from a place on). */
        int slips(int record, int from) {
            if (kind[record] == CATCH || kind[record] == FOUND) {
                return 0;
            }
            int read = 0;
            for (int leg = 0; leg < LEGS; leg++) {
                if (signs[from + leg] != NONE) {
                    read++;
                }
            }
            return read >= 2 ? 1 : 0;
        }

        void draft(int ofKind, int onDay, int withExtra) {
            kind[size] = ofKind;
            day[size] = onDay;
            extra[size] = withExtra;
            number[size] = 0L;
            for (int half = 0; half < HALVES; half++) {
                told[size * HALVES + half] = NONE;
            }
        }

        void draftSigns(int[] read) {
            System.arraycopy(read, 0, signs, signsFrom(size, 0), HALVES * LEGS);
        }

        int keepDraft() {
            size++;
            return size - 1;
        }
    }

    /** The BIRDS, each under its NUMBER, by the JOINS that are not PARTED. */
    private static final class Birds {
        private final Rings rings;
        private final Joins joins;
        private final Records records;
        final int[] birdOf = new int[MOST_RINGS];
        final int[] firstPut = new int[MOST_RINGS];
        final int[] lastPut = new int[MOST_RINGS];
        final int[] hatched = new int[MOST_RINGS];
        final int[] died = new int[MOST_RINGS];

        Birds(Rings rings, Joins joins, Records records) {
            this.rings = rings;
            this.joins = joins;
            this.records = records;
        }

        void gather() {
            gatherRings();
            gatherDays();
            gatherDeaths();
        }

        private void gatherRings() {
            for (int ring = 0; ring < rings.size; ring++) {
                birdOf[ring] = ring;
            }
            for (int join = 0; join < joins.size; join++) {
                if (!joins.parted[join]) {
                    unite(birdOf[joins.first[join]], birdOf[joins.second[join]]);
                }
            }
        }

        private void unite(int one, int other) {
            int least = Math.min(one, other);
            int gone = Math.max(one, other);
            for (int ring = 0; ring < rings.size; ring++) {
                if (birdOf[ring] == gone) {
                    birdOf[ring] = least;
                }
            }
        }

        /** A BIRD's NUMBER is its least RING, so that RING comes first and sets what the others only move. */
        private void gatherDays() {
            for (int ring = 0; ring < rings.size; ring++) {
                int bird = birdOf[ring];
                int put = rings.put[ring];
                int hatchedOn = rings.hatched[ring];
                if (bird == ring) {
                    firstPut[bird] = put;
                    lastPut[bird] = put;
                    hatched[bird] = hatchedOn;
                } else {
                    firstPut[bird] = Math.min(firstPut[bird], put);
                    lastPut[bird] = Math.max(lastPut[bird], put);
                    hatched[bird] = earlier(hatched[bird], hatchedOn);
                }
            }
        }

        private void gatherDeaths() {
            Arrays.fill(died, NONE);
            for (int record = 0; record < records.size; record++) {
                if (records.kind[record] == FOUND) {
                    int bird = birdFound(record);
                    if (bird != NONE) {
                        died[bird] = earlier(died[bird], records.day[record]);
                    }
                }
            }
        }

        private int birdFound(int record) {
            for (int ring = 0; ring < rings.size; ring++) {
                if (readsLike(record, 0, ring)) {
                    return lastPut[birdOf[ring]] <= records.day[record] ? birdOf[ring] : NONE;
                }
            }
            return NONE;
        }

        private static int earlier(int one, int other) {
            if (one == NONE) {
                return other;
            }
            return other == NONE ? one : Math.min(one, other);
        }

        private boolean readsLike(int record, int half, int ring) {
            int from = records.signsFrom(record, half);
            return rings.wornOn(ring, records.day[record])
                    && rings.unlike(ring, records.signs, from) <= records.slips(record, from);
        }

        /** The BIRDS that the HALF FITS, a bit each. */
        long fitting(int record, int half) {
            long set = 0L;
            for (int ring = 0; ring < rings.size; ring++) {
                int bird = birdOf[ring];
                if (!isIn(set, bird) && isOpen(record, bird) && readsLike(record, half, ring)) {
                    set |= 1L << bird;
                }
            }
            return set;
        }

        private boolean isOpen(int record, int bird) {
            int day = records.day[record];
            if (died[bird] != NONE && day > died[bird]) {
                return false;
            }
            return records.kind[record] != FOUND || lastPut[bird] <= day;
        }

        /** The least RING that a HALF READS LIKE of the one BIRD that it FITS; NONE, if it is not SURE. */
        int sureRing(int record, int half) {
            long set = fitting(record, half);
            if (Long.bitCount(set) != 1) {
                return NONE;
            }
            for (int ring = 0; ring < rings.size; ring++) {
                if (isIn(set, birdOf[ring]) && readsLike(record, half, ring)) {
                    return ring;
                }
            }
            return NONE;
        }

        int likest(int record, int half) {
            int best = NONE;
            int fewest = LEGS + 1;
            for (int ring = 0; ring < rings.size; ring++) {
                if (rings.put[ring] <= records.day[record]) {
                    int unlike = rings.unlike(ring, records.signs, records.signsFrom(record, half));
                    if (unlike < fewest) {
                        fewest = unlike;
                        best = ring;
                    }
                }
            }
            return best;
        }

        int bornOf(int bird) {
            return hatched[bird] != NONE ? hatched[bird] : firstPut[bird];
        }

        boolean diedAheadOfRing(int dead, int other) {
            return died[dead] != NONE && died[dead] < lastPut[other];
        }

        int livingOn(int bird, int day, int greatest) {
            int born = bornOf(bird);
            int earliest = hatched[bird] != NONE ? born : born - greatest;
            if (day < earliest || day > born + greatest || died[bird] != NONE && day >= died[bird]) {
                return ALIVE_NO;
            }
            return day >= born && day <= lastSeen(bird) ? ALIVE_YES : ALIVE_MAYBE;
        }

        private int lastSeen(int bird) {
            int last = lastPut[bird];
            for (int record = 0; record < records.size; record++) {
                if (records.kind[record] != FOUND && records.day[record] > last && isSurelyIn(record, bird)) {
                    last = records.day[record];
                }
            }
            return last;
        }

        private boolean isSurelyIn(int record, int bird) {
            for (int half = 0; half < records.halvesOf(record); half++) {
                if (fitting(record, half) == 1L << bird) {
                    return true;
                }
            }
            return false;
        }

        /** Those with PUT on a DAY or before that were not dead ahead of another one. */
        long ringedBy(int day, int notDeadAheadOf) {
            long set = 0L;
            for (int bird = 0; bird < rings.size; bird++) {
                boolean living = died[bird] == NONE || died[bird] >= notDeadAheadOf;
                if (birdOf[bird] == bird && firstPut[bird] <= day && living) {
                    set |= 1L << bird;
                }
            }
            return set;
        }

        /** Those in the hand from a DAY to another one: by a RING that was PUT on, or a CATCH that is SURE. */
        long takenIn(int from, int to) {
            long set = 0L;
            for (int ring = 0; ring < rings.size; ring++) {
                if (rings.put[ring] >= from && rings.put[ring] <= to) {
                    set |= 1L << birdOf[ring];
                }
            }
            for (int record = 0; record < records.size; record++) {
                int day = records.day[record];
                if (records.kind[record] == CATCH && day >= from && day <= to) {
                    long fitted = fitting(record, 0);
                    if (Long.bitCount(fitted) == 1) {
                        set |= fitted;
                    }
                }
            }
            return set;
        }

        int howMany() {
            int many = 0;
            for (int ring = 0; ring < rings.size; ring++) {
                if (birdOf[ring] == ring) {
                    many++;
                }
            }
            return many;
        }

        int howManyDied() {
            int many = 0;
            for (int bird = 0; bird < rings.size; bird++) {
                if (died[bird] != NONE) {
                    many++;
                }
            }
            return many;
        }
    }

    /** Who is whose young, by the RINGS that the NESTS tell. */
    private static final class Kin {
        private final Birds birds;
        private final Records records;
        final long[] parents = new long[MOST_RINGS];
        final long[] forebears = new long[MOST_RINGS];

        Kin(Birds birds, Records records) {
            this.birds = birds;
            this.records = records;
        }

        void gather() {
            Arrays.fill(parents, 0L);
            for (int record = 0; record < records.size; record++) {
                if (records.kind[record] == NEST) {
                    parents[youngIn(record)] |= 1L << parentIn(record, 0) | 1L << parentIn(record, 1);
                }
            }
            gatherForebears();
        }

        /** Ways over one BIRD more at a time, so that each chain of PARENTS is found however long it is. */
        private void gatherForebears() {
            System.arraycopy(parents, 0, forebears, 0, MOST_RINGS);
            for (int over = 0; over < MOST_RINGS; over++) {
                if (forebears[over] != 0L) {
                    for (int young = 0; young < MOST_RINGS; young++) {
                        if (isIn(forebears[young], over)) {
                            forebears[young] |= forebears[over];
                        }
                    }
                }
            }
        }

        private int youngIn(int record) {
            return birds.birdOf[records.extra[record]];
        }

        private int parentIn(int record, int half) {
            return birds.birdOf[records.told[record * HALVES + half]];
        }

        boolean isWrong(int age) {
            for (int bird = 0; bird < MOST_RINGS; bird++) {
                if (isIn(forebears[bird], bird)) {
                    return true;
                }
            }
            for (int record = 0; record < records.size; record++) {
                if (records.kind[record] == NEST && (isTooYoung(record, 0, age) || isTooYoung(record, 1, age))) {
                    return true;
                }
            }
            return false;
        }

        private boolean isTooYoung(int record, int half, int age) {
            return birds.bornOf(parentIn(record, half)) + age > birds.bornOf(youngIn(record));
        }
    }

    /** The LIST, and the GIVINGS of it. */
    private static final class Listing {
        private final Birds birds;
        int size;
        private final int[] record = new int[MOST_LISTED];
        private final int[] half = new int[MOST_LISTED];
        /** Of each HALF listed, the BIRDS that it FITS, a bit each. */
        private final long[] fitting = new long[MOST_LISTED];
        /** Of each BIRD, the HALVES that FIT it, a bit each. */
        private final int[] covers = new int[MOST_RINGS];
        /** The BIRDS that no other one can stand for, wherever it is only their number that matters. */
        private long useful;
        final int[] chosen = new int[MOST_LISTED];
        private final int[] taker = new int[MOST_RINGS];
        private long asked;

        Listing(Birds birds) {
            this.birds = birds;
        }

        boolean hasRecord(int wanted) {
            for (int i = 0; i < size; i++) {
                if (record[i] == wanted) {
                    return true;
                }
            }
            return false;
        }

        int add(int newRecord, int newHalf) {
            record[size] = newRecord;
            half[size] = newHalf;
            size++;
            return size;
        }

        /** Asks anew which BIRDS the HALVES FIT; false, if one of them FITS none. */
        boolean prepare() {
            Arrays.fill(covers, 0);
            for (int i = 0; i < size; i++) {
                fitting[i] = birds.fitting(record[i], half[i]);
                if (fitting[i] == 0L) {
                    return false;
                }
                for (int bird = 0; bird < MOST_RINGS; bird++) {
                    if (isIn(fitting[i], bird)) {
                        covers[bird] |= 1 << i;
                    }
                }
            }
            findUseful();
            return true;
        }

        private void findUseful() {
            useful = 0L;
            for (int bird = 0; bird < MOST_RINGS; bird++) {
                if (covers[bird] != 0 && !hasStandIn(bird)) {
                    useful |= 1L << bird;
                }
            }
        }

        /** Of BIRDS that cover the same HALVES the first one stays. */
        private boolean hasStandIn(int bird) {
            for (int other = 0; other < MOST_RINGS; other++) {
                boolean all = (covers[bird] & ~covers[other]) == 0;
                if (all && (covers[other] != covers[bird] || other < bird)) {
                    return true;
                }
            }
            return false;
        }

        private int allHalves() {
            return (1 << size) - 1;
        }

        int fewestBirds() {
            for (int budget = 0; budget < size; budget++) {
                if (isCoverable(allHalves(), budget)) {
                    return budget;
                }
            }
            return size;
        }

        /** Whether so few BIRDS can cover these HALVES; the budget falls with each level, so it bounds the depth. */
        private boolean isCoverable(int halves, int budget) {
            if (halves == 0) {
                return true;
            }
            if (budget <= 0) {
                return false;
            }
            if (Integer.bitCount(halves) > budget * mostCovered(halves)) {
                return false;
            }
            long choices = fitting[scarcest(halves)] & useful;
            for (int bird = 0; bird < MOST_RINGS; bird++) {
                if (isIn(choices, bird) && isCoverable(halves & ~covers[bird], budget - 1)) {
                    return true;
                }
            }
            return false;
        }

        private int mostCovered(int halves) {
            int best = 0;
            for (int bird = 0; bird < MOST_RINGS; bird++) {
                if (isIn(useful, bird)) {
                    best = Math.max(best, Integer.bitCount(covers[bird] & halves));
                }
            }
            return best;
        }

        /** The HALF with the fewest BIRDS to choose from, which keeps the search narrow. */
        private int scarcest(int halves) {
            int best = 0;
            int fewest = MOST_RINGS + 1;
            for (int i = 0; i < size; i++) {
                int choices = Long.bitCount(fitting[i] & useful);
                if ((halves >> i & 1) == 1 && choices < fewest) {
                    fewest = choices;
                    best = i;
                }
            }
            return best;
        }

        /** The GIVING of LEAST: from the first HALF on, the least BIRD that leaves the others enough. */
        void choose(int least) {
            int budget = least;
            int open = allHalves();
            long used = 0L;
            for (int i = 0; i < size; i++) {
                int bird = leastBirdFor(i, open, used, budget);
                chosen[i] = bird;
                if (bird != NONE && !isIn(used, bird)) {
                    used |= 1L << bird;
                    open &= ~covers[bird];
                    budget--;
                }
            }
        }

        private int leastBirdFor(int i, int open, long used, int budget) {
            for (int bird = 0; bird < MOST_RINGS; bird++) {
                if (isIn(fitting[i], bird)) {
                    boolean free = isIn(used, bird);
                    if (free || budget > 0 && isCoverable(open & ~covers[bird], budget - 1)) {
                        return bird;
                    }
                }
            }
            return NONE;
        }

        /** As many HALVES as can be have a BIRD of their own; the others take any. */
        int mostBirds() {
            Arrays.fill(taker, NONE);
            int many = 0;
            for (int i = 0; i < size; i++) {
                asked = 0L;
                if (isPlaced(i, 0)) {
                    many++;
                }
            }
            return many;
        }

        /** Each level asks another HALF to move on, so that no chain is longer than the LIST. */
        private boolean isPlaced(int i, int depth) {
            if (depth > MOST_LISTED) {
                return false;
            }
            for (int bird = 0; bird < MOST_RINGS; bird++) {
                if (isIn(fitting[i] & ~asked, bird)) {
                    asked |= 1L << bird;
                    if (taker[bird] == NONE || isPlaced(taker[bird], depth + 1)) {
                        taker[bird] = i;
                        return true;
                    }
                }
            }
            return false;
        }
    }

    /** A whole number from 0 on, of up to 280 bits: C(500, 40), the greatest that is needed, times 1600 has 208. */
    private static final class Amount {
        private static final int LIMBS = 10;
        private static final int BITS = 28;
        private static final long MASK = (1L << BITS) - 1;

        private final long[] limbs = new long[LIMBS];

        void become(int value) {
            Arrays.fill(limbs, 0L);
            limbs[0] = value;
        }

        void plus(Amount other) {
            long carry = 0L;
            for (int i = 0; i < LIMBS; i++) {
                long sum = limbs[i] + other.limbs[i] + carry;
                limbs[i] = sum & MASK;
                carry = sum >> BITS;
            }
        }

        void times(int factor) {
            long carry = 0L;
            for (int i = 0; i < LIMBS; i++) {
                long product = limbs[i] * factor + carry;
                limbs[i] = product & MASK;
                carry = product >> BITS;
            }
        }

        void over(int divisor) {
            if (divisor <= 0) {
                return;
            }
            long rest = 0L;
            for (int i = LIMBS - 1; i >= 0; i--) {
                long part = rest << BITS | limbs[i];
                limbs[i] = part / divisor;
                rest = part % divisor;
            }
        }

        boolean isAtLeast(Amount other) {
            for (int i = LIMBS - 1; i >= 0; i--) {
                if (limbs[i] != other.limbs[i]) {
                    return limbs[i] > other.limbs[i];
                }
            }
            return true;
        }
    }

    /**
     * The spans of N. With each BIRD more that is not ringed, fewer ringed ones are taken: the share of the WAYS that
     * have r or fewer never falls as N grows, and that of those that have r or more never rises, so halving finds
     * where each comes to its bound.
     */
    private static final class Spans {
        private static final int GREATEST_PART = 40;
        private static final int GREATEST_DEN = 1000;
        private static final int GREATEST_WHOLE = 500;
        /** Two to this is above GREATEST_WHOLE. */
        private static final int HALVINGS = 10;

        private final Amount ways = new Amount();
        private final Amount few = new Amount();
        private final Amount many = new Amount();
        private final Amount all = new Amount();
        private int ringed;
        private int taken;
        private int both;
        private int num;
        private int den;

        boolean take(int n, int c, int r, int newNum, int newDen) {
            if (n < 1 || n > GREATEST_PART || c < 1 || c > GREATEST_PART || r < 0 || r > n || r > c) {
                return false;
            }
            if (newDen < 2 || newDen > GREATEST_DEN || newNum < 1 || newNum >= newDen) {
                return false;
            }
            ringed = n;
            taken = c;
            both = r;
            num = newNum;
            den = newDen;
            return true;
        }

        int leastWhole() {
            int from = ringed + taken - both;
            int to = GREATEST_WHOLE;
            for (int step = 0; step < HALVINGS && from < to; step++) {
                int middle = (from + to) / 2;
                if (hasFewEnough(middle)) {
                    to = middle;
                } else {
                    from = middle + 1;
                }
            }
            return hasFewEnough(from) && hasManyEnough(from) ? from : NONE;
        }

        int greatestWhole() {
            int from = ringed + taken - both;
            int to = GREATEST_WHOLE;
            for (int step = 0; step < HALVINGS && from < to; step++) {
                int middle = (from + to + 1) / 2;
                if (hasManyEnough(middle)) {
                    from = middle;
                } else {
                    to = middle - 1;
                }
            }
            return hasFewEnough(from) && hasManyEnough(from) ? from : NONE;
        }

        private boolean hasFewEnough(int whole) {
            sumWays(whole);
            return isEnough(few);
        }

        private boolean hasManyEnough(int whole) {
            sumWays(whole);
            return isEnough(many);
        }

        private boolean isEnough(Amount some) {
            some.times(den);
            all.times(num);
            return some.isAtLeast(all);
        }

        private void sumWays(int whole) {
            int others = whole - ringed;
            int first = Math.max(0, taken - others);
            int last = Math.min(ringed, taken);
            few.become(0);
            many.become(0);
            all.become(0);
            ways.become(1);
            chooseFrom(ringed, first);
            chooseFrom(others, taken - first);
            for (int k = first; k <= last; k++) {
                all.plus(ways);
                if (k <= both) {
                    few.plus(ways);
                }
                if (k >= both) {
                    many.plus(ways);
                }
                // From C(n, k) * C(N - n, c - k) to the same with k + 1; it leaves no rest.
                ways.times((ringed - k) * (taken - k));
                ways.over((k + 1) * (others - taken + k + 1));
            }
        }

        private void chooseFrom(int from, int some) {
            for (int i = 1; i <= some; i++) {
                ways.times(from - some + i);
                ways.over(i);
            }
        }
    }

    private static final class Row {
        final int width;
        final long[] numbers;

        Row(int width, long[] numbers) {
            this.width = width;
            this.numbers = numbers;
        }

        boolean hasPlace(int i) {
            return i >= 0 && i < numbers.length;
        }

        boolean hasSpan(int i, int n) {
            return i >= 0 && n >= 0 && n <= numbers.length - i;
        }
    }

    /** The ROWS of the DAYS; each number is kept as a long that never leaves its WIDTH. */
    private static final class Rows {
        private static final int DAYS = 200;
        private static final int GREATEST_LENGTH = 100;
        private static final int BYTES = 0;
        private static final int SHORTS = 1;
        private static final int INTS = 2;
        private static final int LONGS = 3;

        private final Row[] ofDay = new Row[DAYS];

        private boolean hasDay(int day) {
            return day >= 0 && day < DAYS;
        }

        int open(int day, int width, int length) {
            if (!hasDay(day) || width < BYTES || width > LONGS || length > GREATEST_LENGTH) {
                return NO_SUCH;
            }
            if (length < 0) {
                return NOT_AS_WANTED;
            }
            ofDay[day] = new Row(width, new long[length]);
            return DONE;
        }

        boolean drop(int day) {
            if (!hasDay(day) || ofDay[day] == null) {
                return false;
            }
            ofDay[day] = null;
            return true;
        }

        int more(int day, int i, long v) {
            if (!hasDay(day)) {
                return NO_SUCH;
            }
            Row row = ofDay[day];
            if (row == null) {
                return NOT_OPEN;
            }
            if (!row.hasPlace(i)) {
                return OUTSIDE;
            }
            row.numbers[i] = cut(row.width, row.numbers[i] + v);
            return DONE;
        }

        long numberAt(int day, int i) {
            Row row = hasDay(day) ? ofDay[day] : null;
            return row != null && row.hasPlace(i) ? row.numbers[i] : 0L;
        }

        private static long cut(int width, long v) {
            switch (width) {
                case BYTES:
                    return (byte) v;
                case SHORTS:
                    return (short) v;
                case INTS:
                    return (int) v;
                default:
                    return v;
            }
        }

        int carry(int day, int i, int other, int j, int n) {
            if (!hasDay(day) || !hasDay(other)) {
                return NO_SUCH;
            }
            Row from = ofDay[day];
            Row to = ofDay[other];
            if (from == null || to == null) {
                return NOT_OPEN;
            }
            if (from.width != to.width) {
                return OTHER_WIDTH;
            }
            if (!from.hasSpan(i, n) || !to.hasSpan(j, n)) {
                return OUTSIDE;
            }
            System.arraycopy(from.numbers, i, to.numbers, j, n);
            return DONE;
        }
    }
}
