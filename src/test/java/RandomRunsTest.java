import java.util.ArrayDeque;
import java.util.ArrayList;
import java.util.Deque;
import java.util.List;
import java.util.Map;
import java.util.Random;
import java.util.TreeMap;

/** Runs of calls drawn from fixed seeds, each answered by BirdBook and by PlainBook, which must agree. */
public final class RandomRunsTest {
    private static final int CALLS = 512;
    private static final Map<String, Integer> SEEN = new TreeMap<>();
    private static int wrong = 0;

    private final Random random;
    private final BirdBook book = new BirdBook();
    private final PlainBook plain = new PlainBook();
    private final Deque<String> last = new ArrayDeque<>();
    private final long seed;
    private final List<int[]> ringSigns = new ArrayList<>();
    private final int signs;
    private final int days;
    private final boolean nesting;
    private final int mostRings;
    private final int recordsWanted;
    private int rings;
    private int records;
    private int joins;
    private int calls;

    private RandomRunsTest(long seed) {
        this.seed = seed;
        random = new Random(seed);
        signs = new int[] {2, 3, 4, 20, 100}[random.nextInt(5)];
        days = new int[] {4, 20, 100, 1000, 14601}[random.nextInt(5)];
        nesting = signs >= 20 && random.nextBoolean();
        mostRings = 3 + random.nextInt(10);
        recordsWanted = random.nextInt(30) == 0 ? 310 : 40;
    }

    private void same(String name, String call, long got, long want) {
        calls++;
        last.addLast(call + " = " + want);
        if (last.size() > 40) {
            last.removeFirst();
        }
        SEEN.merge(name + " " + (want >= 2 || want < -9 ? "+" : want), 1, Integer::sum);
        if (got != want) {
            wrong++;
            System.out.println("seed " + seed + ": " + call + " answered " + got + ", due is " + want);
            System.out.println("  behind " + String.join("; ", last));
            calls = CALLS;
        }
    }

    private int pick(int from, int to) {
        return from + random.nextInt(to - from + 1);
    }

    private boolean rarely() {
        return random.nextInt(25) == 0;
    }

    private int anyDay() {
        return rarely() ? pick(0, 1) * 14602 - 1 : random.nextInt(days);
    }

    private int anyRing() {
        return rarely() ? pick(0, 1) * (rings + 1) - 1 : random.nextInt(Math.max(1, rings));
    }

    private int anyRecord() {
        return rarely() ? pick(0, 1) * (records + 1) - 1 : random.nextInt(Math.max(1, records));
    }

    private int anyHalf() {
        return rarely() ? pick(-1, 2) : random.nextInt(4) == 0 ? 1 : 0;
    }

    private void read(int half, int leg, int sign) {
        same("read", "read(" + half + ", " + leg + ", " + sign + ")", book.read(half, leg, sign) ? 1 : 0,
                plain.read(half, leg, sign) ? 1 : 0);
    }

    private int[] newSigns() {
        int[] all = new int[4];
        for (int leg = 0; leg < 4; leg++) {
            all[leg] = random.nextInt(signs);
        }
        return all;
    }

    private void readAll(int half, int[] all) {
        for (int leg = 0; leg < 4; leg++) {
            read(half, leg, all[leg]);
        }
    }

    /** Reads a HALF that looks like a RING that is there, more or less. */
    private void readSome(int half, int unread, int slips) {
        int[] like = ringSigns.isEmpty() ? newSigns() : ringSigns.get(random.nextInt(ringSigns.size()));
        for (int leg = 0; leg < 4; leg++) {
            if (random.nextInt(100) >= unread) {
                read(half, leg, random.nextInt(100) < slips ? random.nextInt(signs) : like[leg]);
            }
        }
    }

    private void strayReading() {
        if (rarely()) {
            read(pick(-1, 2), pick(-1, 4), pick(-2, 101));
        }
    }

    private void putRing() {
        int[] all = newSigns();
        readAll(0, all);
        strayReading();
        int day = anyDay();
        int hatched = random.nextInt(3) > 0 ? -1 : rarely() ? pick(day - 6000, day + 2) : Math.max(0, day - pick(0, 60));
        int want = plain.ring(day, hatched);
        same("ring", "ring(" + day + ", " + hatched + ")", book.ring(day, hatched), want);
        if (want >= 0) {
            int[] kept = new int[4];
            for (int leg = 0; leg < 4; leg++) {
                kept[leg] = plain.count(10 * (want + 1) + 3 + leg);
            }
            ringSigns.add(kept);
            rings++;
        }
    }

    private void keep(String name, String call, int got, int want) {
        same(name, call, got, want);
        if (want >= 0) {
            records++;
        }
    }

    private void takeRecord() {
        int day = anyDay();
        switch (random.nextInt(9)) {
            case 0: case 1:
                readSome(0, 2, 3);
                strayReading();
                float weight = rarely() ? 4000.125f - pick(0, 1) * 4000.25f : pick(0, 32000) / 8f;
                keep("caught", "caught(" + day + ", " + weight + ")", book.caught(day, weight),
                        plain.caught(day, weight));
                break;
            case 2: case 3: case 4:
                readSome(0, 45, 15);
                strayReading();
                keep("sight", "sight(" + day + ")", book.sight(day), plain.sight(day));
                break;
            case 5:
                readSome(0, 40, 15);
                readSome(1, 40, 15);
                keep("pair", "pair(" + day + ")", book.pair(day), plain.pair(day));
                break;
            case 6: case 7:
                readSome(0, 10, 4);
                readSome(1, 10, 4);
                int young = anyRing();
                if (random.nextInt(3) > 0) {
                    day = Math.max(0, days - pick(1, days / 4));
                }
                keep("nest", "nest(" + day + ", " + young + ")", book.nest(day, young), plain.nest(day, young));
                break;
            default:
                readSome(0, 1, 2);
                strayReading();
                keep("found", "found(" + day + ")", book.found(day), plain.found(day));
                break;
        }
    }

    /** Two RINGS read whole on a DAY when both were worn, and a young that was PUT late, as far as can be had. */
    private void nestLikely() {
        int a = random.nextInt(Math.max(1, rings));
        int b = random.nextInt(Math.max(1, rings));
        int young = random.nextInt(Math.max(1, rings));
        for (int tries = 0; tries < 4; tries++) {
            int other = random.nextInt(Math.max(1, rings));
            young = plain.count(10 * (other + 1)) > plain.count(10 * (young + 1)) ? other : young;
        }
        readAll(0, ringSigns.get(a));
        readAll(1, ringSigns.get(b));
        int day = Math.max(plain.count(10 * (a + 1)), plain.count(10 * (b + 1)));
        keep("nest", "nest(" + day + ", " + young + ")", book.nest(day, young), plain.nest(day, young));
    }

    private void takeNote() {
        long v = random.nextLong();
        keep("note", "note(" + v + ")", book.note(v), plain.note(v));
    }

    private void join(int a, int b) {
        int want = plain.join(a, b);
        same("join", "join(" + a + ", " + b + ")", book.join(a, b), want);
        joins += want >= 0 ? 1 : 0;
    }

    private void lose(int ring, int day) {
        same("lose", "lose(" + ring + ", " + day + ")", book.lose(ring, day), plain.lose(ring, day));
    }

    /** A RING, and another one that was PUT no earlier, so that the one may have been lost between. */
    private void joinLikely() {
        int a = anyRing();
        int b = anyRing();
        int putA = plain.count(10 * (a + 1));
        int putB = plain.count(10 * (b + 1));
        if (putA > putB) {
            int swap = a;
            a = b;
            b = swap;
        }
        if (putA >= 0 && putB >= 0 && plain.count(10 * (a + 1) + 2) == -1) {
            lose(a, pick(Math.min(putA, putB), Math.max(putA, putB)));
        }
        join(a, b);
    }

    private void changeBirds() {
        switch (random.nextInt(6)) {
            case 0:
                lose(anyRing(), anyDay());
                break;
            case 1:
                join(anyRing(), anyRing());
                break;
            case 2: case 3:
                joinLikely();
                break;
            default:
                int join = rarely() ? pick(0, 1) * (joins + 1) - 1 : random.nextInt(Math.max(1, joins));
                same("part", "part(" + join + ")", book.part(join), plain.part(join));
                break;
        }
    }

    private void askRecord() {
        int record = anyRecord();
        int half = anyHalf();
        int i = pick(-1, 4);
        int what = pick(-2, 20);
        String at = "(" + record + ", " + half + ")";
        same("fits", "fits" + at, book.fits(record, half), plain.fits(record, half));
        same("who", "who" + at + " " + i, book.who(record, half, i), plain.who(record, half, i));
        same("nearest", "nearest" + at, book.nearest(record, half), plain.nearest(record, half));
        same("record", "record(" + record + ", " + what + ")", book.record(record, what), plain.record(record, what));
        same("noted", "noted(" + record + ")", book.noted(record), plain.noted(record));
    }

    private void askBird() {
        int ring = anyRing();
        int other = anyRing();
        int day = anyDay();
        int i = pick(-1, 3);
        int what = random.nextInt(3) == 0 ? pick(-2, 9) : pick(9, 10 * (rings + 2));
        same("bird", "bird(" + ring + ")", book.bird(ring), plain.bird(ring));
        same("death", "death(" + ring + ")", book.death(ring), plain.death(ring));
        same("alive", "alive(" + ring + ", " + day + ")", book.alive(ring, day), plain.alive(ring, day));
        same("parent", "parent(" + ring + ", " + i + ")", book.parent(ring, i), plain.parent(ring, i));
        same("forebear", "forebear(" + ring + ", " + other + ")", book.forebear(ring, other) ? 1 : 0,
                plain.forebear(ring, other) ? 1 : 0);
        same("count", "count(" + what + ")", book.count(what), plain.count(what));
    }

    private void askList() {
        int record = anyRecord();
        int half = anyHalf();
        for (int i = 0; i < 3; i++) {
            same("list", "list(" + record + ", " + half + ")", book.list(record, half), plain.list(record, half));
            record = anyRecord();
        }
        same("least", "least()", book.least(), plain.least());
        same("most", "most()", book.most(), plain.most());
        for (int i = 0; i < 3; i++) {
            int at = pick(-1, Math.max(1, plain.count(5)));
            same("given", "given(" + at + ")", book.given(at), plain.given(at));
        }
        if (random.nextInt(12) == 0) {
            same("empty", "empty()", book.empty(), plain.empty());
        }
    }

    private void askNumbers() {
        int a = anyDay();
        int b = rarely() ? anyDay() : Math.min(14600, a + pick(0, days));
        int e = rarely() ? anyDay() : Math.min(14600, b + pick(0, days));
        int what = rarely() ? pick(-1, 5) : pick(0, 3);
        same("there", "there(" + a + ", " + b + ", " + e + ", " + what + ")", book.there(a, b, e, what),
                plain.there(a, b, e, what));
        int n = pick(rarely() ? -1 : 1, rarely() ? 42 : 40);
        int c = pick(rarely() ? -1 : 1, rarely() ? 42 : 40);
        int r = random.nextInt(3) == 0 ? pick(-1, 41) : pick(0, Math.max(0, Math.min(n, c)));
        int den = rarely() ? pick(-1, 1002) : pick(2, 1000);
        int num = random.nextInt(3) == 0 ? pick(-1, 1001) : pick(1, Math.max(1, den / 2));
        String with = "(" + n + ", " + c + ", " + r + ", " + num + ", " + den + ")";
        same("low", "low" + with, book.low(n, c, r, num, den), plain.low(n, c, r, num, den));
        same("high", "high" + with, book.high(n, c, r, num, den), plain.high(n, c, r, num, den));
    }

    private int rowDay() {
        return rarely() ? pick(0, 1) * 201 - 1 : 198 + pick(0, 1);
    }

    private void askRows() {
        int day = rowDay();
        int other = rowDay();
        int i = rarely() ? pick(-1, 9) : pick(0, 3);
        int j = rarely() ? pick(-1, 9) : pick(0, 3);
        int n = rarely() ? Integer.MAX_VALUE - pick(0, 3) : rarely() ? -1 : pick(0, 4);
        long v = random.nextLong() >> random.nextInt(64);
        switch (random.nextInt(6)) {
            case 0:
                int width = rarely() ? pick(-1, 4) : random.nextInt(3) == 0 ? pick(0, 3) : (int) (seed & 3);
                int length = rarely() ? pick(0, 1) * 102 - 1 : pick(0, 8);
                same("watch", "watch(" + day + ", " + width + ", " + length + ")", book.watch(day, width, length),
                        plain.watch(day, width, length));
                break;
            case 1:
                if (rarely()) {
                    same("tear", "tear(" + day + ")", book.tear(day) ? 1 : 0, plain.tear(day) ? 1 : 0);
                }
                break;
            case 2: case 3:
                same("tally", "tally(" + day + ", " + i + ", " + v + ")", book.tally(day, i, v), plain.tally(day, i, v));
                same("tallied", "tallied(" + day + ", " + i + ")", book.tallied(day, i), plain.tallied(day, i));
                break;
            default:
                same("copy", "copy(" + day + ", " + i + ", " + other + ", " + j + ", " + n + ")",
                        book.copy(day, i, other, j, n), plain.copy(day, i, other, j, n));
                same("tallied", "tallied(" + other + ", " + j + ")", book.tallied(other, j), plain.tallied(other, j));
                break;
        }
    }

    private void run() {
        int age = rarely() ? 5001 : random.nextInt(3) == 0 ? 0 : pick(0, days / 10);
        int greatest = rarely() ? 0 : pick(1, days);
        if (random.nextInt(5) > 0) {
            same("rule", "rule(" + age + ", " + greatest + ")", book.rule(age, greatest) ? 1 : 0,
                    plain.rule(age, greatest) ? 1 : 0);
        }
        while (calls < CALLS - 20) {
            int draw = random.nextInt(100);
            if (rings < mostRings && (draw < 30 || rings < 2)) {
                putRing();
            } else if (draw < 36 && nesting && records < recordsWanted) {
                nestLikely();
            } else if (draw < 45 && records < recordsWanted) {
                takeRecord();
            } else if (draw < (recordsWanted > 300 ? 90 : 47)) {
                takeNote();
            } else if (draw < 67) {
                changeBirds();
            } else if (draw < 75) {
                askRecord();
            } else if (draw < 85) {
                askBird();
            } else if (draw < 90) {
                askList();
            } else if (draw < 92) {
                askNumbers();
            } else if (draw < 99) {
                askRows();
            } else {
                same("rule", "rule(1, 1)", book.rule(1, 1) ? 1 : 0, plain.rule(1, 1) ? 1 : 0);
            }
        }
    }

    public static void main(String[] args) {
        int runs = args.length > 0 ? Integer.parseInt(args[0]) : 250;
        int from = args.length > 1 ? Integer.parseInt(args[1]) : 0;
        for (int seed = from; seed < from + runs && wrong < 5; seed++) {
            new RandomRunsTest(seed).run();
        }
        if (args.length > 0) {
            System.out.println(SEEN);
        }
        System.out.println(wrong == 0 ? runs + " drawn runs are as due" : wrong + " drawn runs are not as due");
        if (wrong != 0) {
            System.exit(1);
        }
    }
}
