import java.math.BigInteger;
import java.util.ArrayList;
import java.util.Arrays;
import java.util.HashMap;
import java.util.List;
import java.util.Map;
import java.util.Set;
import java.util.TreeSet;

/**
 * The document once more, as literally as it can be written and with the whole library: every answer is reckoned from
 * the bare RINGS, JOINS and RECORDS each time. RandomRunsTest holds BirdBook against it.
 */
final class PlainBook {
    static final int NONE = -1;

    private static final class PlainRing {
        int[] signs;
        int put;
        int hatched;
        int lost = NONE;
    }

    private static final class PlainRecord {
        int kind;
        int day = NONE;
        int weight = NONE;
        int young = NONE;
        int[] told = {NONE, NONE};
        int[][] halves = {};
        long number;
    }

    private static final class PlainRow {
        int width;
        BigInteger[] numbers;
    }

    private int age = 365;
    private int greatest = 5475;
    private int[][] reading = nothing();
    private final List<PlainRing> rings = new ArrayList<>();
    private final List<int[]> joins = new ArrayList<>();
    private final Set<Integer> parted = new TreeSet<>();
    private final List<PlainRecord> records = new ArrayList<>();
    private final List<int[]> listed = new ArrayList<>();
    private final Map<Integer, PlainRow> rows = new HashMap<>();

    private static int[][] nothing() {
        return new int[][] {{NONE, NONE, NONE, NONE}, {NONE, NONE, NONE, NONE}};
    }

    private static boolean day(int day) {
        return 0 <= day && day <= 14600;
    }

    private static long read(int[] half) {
        return Arrays.stream(half).filter(s -> s != NONE).count();
    }

    private boolean isRing(int ring) {
        return ring >= 0 && ring < rings.size();
    }

    private boolean isHalf(int record, int half) {
        return record >= 0 && record < records.size() && half >= 0 && half < records.get(record).halves.length;
    }

    // ---- BIRDS

    /** The RINGS of the BIRD of a RING, by walking along the JOINS. */
    private TreeSet<Integer> ringsOf(int ring) {
        TreeSet<Integer> all = new TreeSet<>();
        all.add(ring);
        boolean more = true;
        while (more) {
            more = false;
            for (int j = 0; j < joins.size(); j++) {
                if (!parted.contains(j)) {
                    int a = joins.get(j)[0];
                    int b = joins.get(j)[1];
                    if (all.contains(a) != all.contains(b)) {
                        all.add(a);
                        all.add(b);
                        more = true;
                    }
                }
            }
        }
        return all;
    }

    private int number(int ring) {
        return ringsOf(ring).first();
    }

    private TreeSet<Integer> allBirds() {
        TreeSet<Integer> all = new TreeSet<>();
        for (int r = 0; r < rings.size(); r++) {
            all.add(number(r));
        }
        return all;
    }

    private int hatchedOf(int bird) {
        return ringsOf(bird).stream().mapToInt(r -> rings.get(r).hatched).filter(h -> h != NONE).min().orElse(NONE);
    }

    private int putOf(int bird) {
        return ringsOf(bird).stream().mapToInt(r -> rings.get(r).put).min().getAsInt();
    }

    private int bornOf(int bird) {
        return hatchedOf(bird) != NONE ? hatchedOf(bird) : putOf(bird);
    }

    private boolean readsLike(PlainRecord record, int half, int ring) {
        PlainRing r = rings.get(ring);
        if (r.put > record.day || r.lost != NONE && r.lost < record.day) {
            return false;
        }
        int other = unlike(record.halves[half], r);
        boolean hurried = record.kind == 1 || record.kind == 2 || record.kind == 3;
        return other == 0 || hurried && other == 1 && read(record.halves[half]) >= 2;
    }

    private static int unlike(int[] read, PlainRing ring) {
        int other = 0;
        for (int leg = 0; leg < 4; leg++) {
            if (read[leg] != NONE && read[leg] != ring.signs[leg]) {
                other++;
            }
        }
        return other;
    }

    private boolean counts(PlainRecord found) {
        for (int r = 0; r < rings.size(); r++) {
            if (readsLike(found, 0, r)) {
                return ringsOf(r).stream().noneMatch(x -> rings.get(x).put > found.day);
            }
        }
        return false;
    }

    private int deathOf(int bird) {
        int first = NONE;
        for (PlainRecord record : records) {
            if (record.kind == 4 && counts(record) && ringsOf(bird).stream().anyMatch(r -> readsLike(record, 0, r))) {
                first = first == NONE ? record.day : Math.min(first, record.day);
            }
        }
        return first;
    }

    private List<Integer> fitted(PlainRecord record, int half) {
        List<Integer> all = new ArrayList<>();
        for (int bird : allBirds()) {
            boolean like = ringsOf(bird).stream().anyMatch(r -> readsLike(record, half, r));
            if (like && (record.kind != 4 || counts(record))) {
                int death = deathOf(bird);
                if (death == NONE || record.day <= death) {
                    all.add(bird);
                }
            }
        }
        return all;
    }

    private TreeSet<Integer> parentsOf(int bird) {
        TreeSet<Integer> all = new TreeSet<>();
        for (PlainRecord record : records) {
            if (record.kind == 3 && ringsOf(bird).contains(record.young)) {
                all.add(number(record.told[0]));
                all.add(number(record.told[1]));
            }
        }
        return all;
    }

    private TreeSet<Integer> forebearsOf(int bird) {
        TreeSet<Integer> all = new TreeSet<>();
        List<Integer> todo = new ArrayList<>(parentsOf(bird));
        while (!todo.isEmpty()) {
            int next = todo.remove(todo.size() - 1);
            if (all.add(next)) {
                todo.addAll(parentsOf(next));
            }
        }
        return all;
    }

    private boolean wrong() {
        for (int bird : allBirds()) {
            if (forebearsOf(bird).contains(bird)) {
                return true;
            }
            for (int parent : parentsOf(bird)) {
                if (bornOf(bird) - bornOf(parent) < age) {
                    return true;
                }
            }
        }
        return false;
    }

    // ---- the face

    boolean rule(int newAge, int newGreatest) {
        if (!rings.isEmpty() || newAge < 0 || newAge > 5000 || newGreatest < 1 || newGreatest > 14600) {
            return false;
        }
        age = newAge;
        greatest = newGreatest;
        return true;
    }

    boolean read(int half, int leg, int sign) {
        if (half < 0 || half > 1 || leg < 0 || leg > 3 || sign < -1 || sign > 99) {
            return false;
        }
        reading[half][leg] = sign;
        return true;
    }

    private int[][] takeReading() {
        int[][] taken = reading;
        reading = nothing();
        return taken;
    }

    int ring(int day, int hatched) {
        int[][] was = takeReading();
        if (!day(day) || hatched != NONE && (!day(hatched) || hatched > day || day - hatched > greatest)) {
            return -2;
        }
        if (read(was[0]) != 4 || read(was[1]) != 0) {
            return -3;
        }
        if (rings.stream().anyMatch(r -> Arrays.equals(r.signs, was[0]))) {
            return -4;
        }
        if (rings.size() == 60) {
            return -8;
        }
        PlainRing ring = new PlainRing();
        ring.signs = was[0];
        ring.put = day;
        ring.hatched = hatched;
        rings.add(ring);
        return rings.size() - 1;
    }

    int lose(int ring, int day) {
        if (!isRing(ring) || !day(day)) {
            return -2;
        }
        if (rings.get(ring).put > day) {
            return -3;
        }
        if (rings.get(ring).lost != NONE) {
            return -4;
        }
        rings.get(ring).lost = day;
        return 0;
    }

    private boolean deadAhead(int one, int other) {
        int death = deathOf(number(one));
        return death != NONE && ringsOf(other).stream().anyMatch(r -> death < rings.get(r).put);
    }

    int join(int a, int b) {
        if (!isRing(a) || !isRing(b)) {
            return -2;
        }
        if (number(a) == number(b)) {
            return -4;
        }
        if (rings.get(a).lost == NONE || rings.get(b).put < rings.get(a).lost) {
            return -3;
        }
        if (deadAhead(a, b) || deadAhead(b, a)) {
            return -5;
        }
        joins.add(new int[] {a, b});
        boolean wrong = wrong();
        if (wrong || joins.size() > 60) {
            joins.remove(joins.size() - 1);
            return wrong ? -9 : -8;
        }
        return joins.size() - 1;
    }

    int part(int join) {
        if (join < 0 || join >= joins.size()) {
            return -2;
        }
        if (parted.contains(join)) {
            return -4;
        }
        parted.add(join);
        if (wrong()) {
            parted.remove(join);
            return -9;
        }
        return 0;
    }

    private static boolean suits(int kind, int[][] was) {
        long a = read(was[0]);
        long b = read(was[1]);
        return switch (kind) {
            case 0, 4 -> a == 4 && b == 0;
            case 1 -> a >= 1 && b == 0;
            default -> a >= 1 && b >= 1;
        };
    }

    private int keep(int kind, int day, int[][] was) {
        if (!day(day)) {
            return -2;
        }
        if (!suits(kind, was)) {
            return -3;
        }
        if (records.size() == 300) {
            return -8;
        }
        PlainRecord record = new PlainRecord();
        record.kind = kind;
        record.day = day;
        record.halves = kind == 2 || kind == 3 ? was : new int[][] {was[0]};
        records.add(record);
        return records.size() - 1;
    }

    int caught(int day, float weight) {
        int[][] was = takeReading();
        if (weight < 0 || weight > 4000) {
            return -2;
        }
        int answer = keep(0, day, was);
        if (answer >= 0) {
            records.get(answer).weight = (int) (weight * 10f);
        }
        return answer;
    }

    int sight(int day) {
        return keep(1, day, takeReading());
    }

    int pair(int day) {
        return keep(2, day, takeReading());
    }

    int nest(int day, int young) {
        int[][] was = takeReading();
        if (!isRing(young)) {
            return -2;
        }
        int answer = keep(3, day, was);
        if (answer < 0) {
            return answer;
        }
        PlainRecord record = records.remove(answer);
        List<Integer> one = fitted(record, 0);
        List<Integer> other = fitted(record, 1);
        if (one.size() != 1 || other.size() != 1) {
            return -5;
        }
        if (one.equals(other)) {
            return -4;
        }
        record.young = young;
        record.told[0] = ringsOf(one.get(0)).stream().filter(r -> readsLike(record, 0, r)).findFirst().get();
        record.told[1] = ringsOf(other.get(0)).stream().filter(r -> readsLike(record, 1, r)).findFirst().get();
        records.add(record);
        if (wrong()) {
            records.remove(answer);
            return -9;
        }
        return answer;
    }

    int found(int day) {
        return keep(4, day, takeReading());
    }

    int note(long v) {
        if (records.size() == 300) {
            return -8;
        }
        PlainRecord record = new PlainRecord();
        record.kind = 5;
        record.number = v;
        records.add(record);
        return records.size() - 1;
    }

    int fits(int record, int half) {
        return isHalf(record, half) ? fitted(records.get(record), half).size() : -2;
    }

    int who(int record, int half, int i) {
        if (!isHalf(record, half)) {
            return NONE;
        }
        List<Integer> all = fitted(records.get(record), half);
        return i >= 0 && i < all.size() ? all.get(i) : NONE;
    }

    int nearest(int record, int half) {
        if (!isHalf(record, half)) {
            return NONE;
        }
        for (int other = 0; other <= 4; other++) {
            for (int r = 0; r < rings.size(); r++) {
                boolean there = rings.get(r).put <= records.get(record).day;
                if (there && unlike(records.get(record).halves[half], rings.get(r)) == other) {
                    return r;
                }
            }
        }
        return NONE;
    }

    int bird(int ring) {
        return isRing(ring) ? number(ring) : NONE;
    }

    int death(int ring) {
        return isRing(ring) ? deathOf(number(ring)) : NONE;
    }

    int alive(int ring, int day) {
        if (!isRing(ring) || !day(day)) {
            return NONE;
        }
        int bird = number(ring);
        int hatched = hatchedOf(bird);
        if (hatched != NONE && day < hatched || hatched == NONE && putOf(bird) - day > greatest) {
            return 0;
        }
        int death = deathOf(bird);
        if (death != NONE && day >= death || day - bornOf(bird) > greatest) {
            return 0;
        }
        int last = ringsOf(bird).stream().mapToInt(r -> rings.get(r).put).max().getAsInt();
        for (PlainRecord record : records) {
            for (int half = 0; half < record.halves.length; half++) {
                if (record.kind != 4 && fitted(record, half).equals(List.of(bird))) {
                    last = Math.max(last, record.day);
                }
            }
        }
        return bornOf(bird) <= day && day <= last ? 1 : 2;
    }

    int parent(int ring, int i) {
        if (!isRing(ring)) {
            return NONE;
        }
        List<Integer> all = new ArrayList<>(parentsOf(number(ring)));
        return i >= 0 && i < all.size() ? all.get(i) : NONE;
    }

    boolean forebear(int a, int b) {
        return isRing(a) && isRing(b) && forebearsOf(number(b)).contains(number(a));
    }

    int list(int record, int half) {
        if (!isHalf(record, half)) {
            return -2;
        }
        if (fitted(records.get(record), half).isEmpty()) {
            return -5;
        }
        if (listed.stream().anyMatch(x -> x[0] == record)) {
            return -4;
        }
        if (listed.size() == 16) {
            return -8;
        }
        listed.add(new int[] {record, half});
        return listed.size();
    }

    int empty() {
        int had = listed.size();
        listed.clear();
        return had;
    }

    /** Of each set of BIRDS that a GIVING can have, the least of its GIVINGS. */
    private Map<Set<Integer>, List<Integer>> givings() {
        Map<Set<Integer>, List<Integer>> now = new HashMap<>();
        now.put(Set.of(), List.of());
        for (int[] entry : listed) {
            Map<Set<Integer>, List<Integer>> next = new HashMap<>();
            for (Map.Entry<Set<Integer>, List<Integer>> way : now.entrySet()) {
                for (int bird : fitted(records.get(entry[0]), entry[1])) {
                    Set<Integer> birds = new TreeSet<>(way.getKey());
                    birds.add(bird);
                    List<Integer> giving = new ArrayList<>(way.getValue());
                    giving.add(bird);
                    next.merge(birds, giving, (x, y) -> compare(x, y) <= 0 ? x : y);
                }
            }
            now = next;
        }
        return now;
    }

    private static int compare(List<Integer> x, List<Integer> y) {
        for (int i = 0; i < x.size(); i++) {
            if (!x.get(i).equals(y.get(i))) {
                return Integer.compare(x.get(i), y.get(i));
            }
        }
        return 0;
    }

    int least() {
        return givings().keySet().stream().mapToInt(Set::size).min().orElse(NONE);
    }

    int most() {
        return givings().keySet().stream().mapToInt(Set::size).max().orElse(NONE);
    }

    int given(int i) {
        Map<Set<Integer>, List<Integer>> all = givings();
        int least = all.keySet().stream().mapToInt(Set::size).min().orElse(NONE);
        if (i < 0 || i >= listed.size() || least == NONE) {
            return NONE;
        }
        return all.entrySet().stream().filter(e -> e.getKey().size() == least).map(Map.Entry::getValue)
                .min(PlainBook::compare).get().get(i);
    }

    int there(int a, int b, int e, int what) {
        if (!day(a) || !day(b) || !day(e) || what < 0 || what > 3 || b <= a || e < b) {
            return NONE;
        }
        Set<Integer> n = new TreeSet<>();
        Set<Integer> c = new TreeSet<>();
        for (int bird : allBirds()) {
            int death = deathOf(bird);
            if (putOf(bird) <= a && (death == NONE || death >= b)) {
                n.add(bird);
            }
            if (ringsOf(bird).stream().anyMatch(r -> rings.get(r).put >= b && rings.get(r).put <= e)) {
                c.add(bird);
            }
            for (PlainRecord record : records) {
                boolean then = record.kind == 0 && record.day >= b && record.day <= e;
                if (then && fitted(record, 0).equals(List.of(bird))) {
                    c.add(bird);
                }
            }
        }
        Set<Integer> r = new TreeSet<>(n);
        r.retainAll(c);
        if (what < 3) {
            return what == 0 ? n.size() : what == 1 ? c.size() : r.size();
        }
        if (r.isEmpty()) {
            return n.size() + c.size();
        }
        int most = 0;
        for (int whole = 0; whole <= 3600; whole++) {
            if (whole * r.size() <= n.size() * c.size()) {
                most = whole;
            }
        }
        return most;
    }

    private static final BigInteger[][] PASCAL = pascal();

    private static BigInteger[][] pascal() {
        BigInteger[][] rows = new BigInteger[501][];
        for (int i = 0; i <= 500; i++) {
            rows[i] = new BigInteger[42];
            Arrays.fill(rows[i], BigInteger.ZERO);
            rows[i][0] = BigInteger.ONE;
            for (int j = 1; j < 42 && i > 0; j++) {
                rows[i][j] = rows[i - 1][j].add(rows[i - 1][j - 1]);
            }
        }
        return rows;
    }

    private static List<Integer> wholes(int n, int c, int r, int num, int den) {
        List<Integer> all = new ArrayList<>();
        if (n < 1 || n > 40 || c < 1 || c > 40 || r < 0 || r > n || r > c) {
            return all;
        }
        if (den < 2 || den > 1000 || num < 1 || num >= den) {
            return all;
        }
        for (int whole = n + c - r; whole <= 500; whole++) {
            BigInteger few = BigInteger.ZERO;
            BigInteger many = BigInteger.ZERO;
            for (int k = 0; k <= Math.min(n, c); k++) {
                BigInteger ways = PASCAL[n][k].multiply(PASCAL[whole - n][c - k]);
                few = k <= r ? few.add(ways) : few;
                many = k >= r ? many.add(ways) : many;
            }
            BigInteger bound = PASCAL[whole][c].multiply(BigInteger.valueOf(num));
            BigInteger times = BigInteger.valueOf(den);
            if (few.multiply(times).compareTo(bound) >= 0 && many.multiply(times).compareTo(bound) >= 0) {
                all.add(whole);
            }
        }
        return all;
    }

    int low(int n, int c, int r, int num, int den) {
        List<Integer> all = wholes(n, c, r, num, den);
        return all.isEmpty() ? NONE : all.get(0);
    }

    int high(int n, int c, int r, int num, int den) {
        List<Integer> all = wholes(n, c, r, num, den);
        return all.isEmpty() ? NONE : all.get(all.size() - 1);
    }

    int record(int record, int what) {
        if (record < 0 || record >= records.size()) {
            return NONE;
        }
        PlainRecord it = records.get(record);
        if (what >= 10 && what <= 17) {
            int half = (what - 10) / 4;
            return half < it.halves.length ? it.halves[half][(what - 10) % 4] : NONE;
        }
        return switch (what) {
            case 0 -> it.kind;
            case 1 -> it.day;
            case 2 -> it.weight;
            case 3 -> it.young;
            case 4 -> it.told[0];
            case 5 -> it.told[1];
            case 6 -> it.halves.length;
            default -> NONE;
        };
    }

    long noted(int record) {
        return record >= 0 && record < records.size() ? records.get(record).number : 0;
    }

    int watch(int day, int width, int n) {
        if (day < 0 || day > 199 || width < 0 || width > 3 || n > 100) {
            return -2;
        }
        if (n < 0) {
            return -3;
        }
        PlainRow row = new PlainRow();
        row.width = width;
        row.numbers = new BigInteger[n];
        Arrays.fill(row.numbers, BigInteger.ZERO);
        rows.put(day, row);
        return 0;
    }

    boolean tear(int day) {
        return rows.remove(day) != null;
    }

    private int tallyRefusal(int day, int i) {
        if (day < 0 || day > 199) {
            return -2;
        }
        if (!rows.containsKey(day)) {
            return -5;
        }
        return i < 0 || i >= rows.get(day).numbers.length ? -6 : 0;
    }

    int tally(int day, int i, long v) {
        int refusal = tallyRefusal(day, i);
        if (refusal == 0) {
            PlainRow row = rows.get(day);
            int bits = 8 << row.width;
            BigInteger sum = row.numbers[i].add(BigInteger.valueOf(v)).mod(BigInteger.ONE.shiftLeft(bits));
            row.numbers[i] = sum.testBit(bits - 1) ? sum.subtract(BigInteger.ONE.shiftLeft(bits)) : sum;
        }
        return refusal;
    }

    long tallied(int day, int i) {
        return tallyRefusal(day, i) == 0 ? rows.get(day).numbers[i].longValueExact() : 0;
    }

    int copy(int day, int i, int other, int j, int n) {
        if (day < 0 || day > 199 || other < 0 || other > 199) {
            return -2;
        }
        PlainRow from = rows.get(day);
        PlainRow to = rows.get(other);
        if (from == null || to == null) {
            return -5;
        }
        if (from.width != to.width) {
            return -7;
        }
        if (i < 0 || j < 0 || n < 0 || (long) i + n > from.numbers.length || (long) j + n > to.numbers.length) {
            return -6;
        }
        BigInteger[] taken = Arrays.copyOfRange(from.numbers, i, i + n);
        for (int k = 0; k < n; k++) {
            to.numbers[j + k] = taken[k];
        }
        return 0;
    }

    int count(int what) {
        if (what >= 10) {
            int ring = what / 10 - 1;
            if (!isRing(ring) || what % 10 > 6) {
                return NONE;
            }
            PlainRing r = rings.get(ring);
            return what % 10 == 0 ? r.put : what % 10 == 1 ? r.hatched : what % 10 == 2 ? r.lost
                    : r.signs[what % 10 - 3];
        }
        return switch (what) {
            case 0 -> rings.size();
            case 1 -> records.size();
            case 2 -> joins.size();
            case 3 -> allBirds().size();
            case 4 -> (int) allBirds().stream().filter(b -> deathOf(b) != NONE).count();
            case 5 -> listed.size();
            default -> NONE;
        };
    }
}
