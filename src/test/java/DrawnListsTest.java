import java.util.ArrayList;
import java.util.BitSet;
import java.util.Collections;
import java.util.List;
import java.util.Random;

/**
 * LISTS of up to 16 HALVES (most have all 16) over 60 RINGS, drawn from fixed seeds. What each HALF FITS is taken from
 * who(); LEAST, MOST and the GIVING of LEAST are then reckoned over all sets of HALVES. The drawn runs against PlainBook
 * have fewer RINGS.
 */
public final class DrawnListsTest {
    private static final int RINGS = 60;
    private static final int LISTED = 16;
    private static int wrong = 0;

    private final long seed;
    private final Random random;
    private final int signs;
    private final BirdBook book = new BirdBook();
    private final List<Integer> listed = new ArrayList<>();
    /** Of each BIRD, the HALVES of the LIST that FIT it, a bit each. */
    private final int[] covers = new int[RINGS];

    private DrawnListsTest(long seed) {
        this.seed = seed;
        random = new Random(seed);
        signs = 3 + random.nextInt(8);
    }

    private void due(String call, int got, int want) {
        if (got != want) {
            wrong++;
            System.out.println("seed " + seed + ": " + call + " answered " + got + ", due is " + want);
        }
    }

    private void putRings() {
        List<Integer> all = new ArrayList<>();
        for (int number = 0; number < signs * signs * signs * signs; number++) {
            all.add(number);
        }
        Collections.shuffle(all, random);
        for (int ring = 0; ring < RINGS; ring++) {
            int left = all.get(ring);
            for (int leg = 0; leg < 4; leg++) {
                book.read(0, leg, left % signs);
                left /= signs;
            }
            book.ring(random.nextInt(3), BirdBook.NONE);
        }
    }

    /** At most 5 calls a try, so that 60 RINGS, the LIST and the questions stay within 512 calls. */
    private void fillList() {
        int read = 1 + random.nextInt(3);
        List<Integer> legs = new ArrayList<>(List.of(0, 1, 2, 3));
        for (int tries = 0; tries < 20 && listed.size() < LISTED; tries++) {
            Collections.shuffle(legs, random);
            for (int i = 0; i < read; i++) {
                book.read(0, legs.get(i), random.nextInt(signs));
            }
            int record = book.sight(random.nextInt(3));
            if (book.list(record, 0) > 0) {
                listed.add(record);
            }
        }
    }

    /** Asked of a second book of the same seed, as each BIRD of each HALF takes a call. */
    private void takeFits(BirdBook other, int i) {
        int record = listed.get(i);
        int many = other.fits(record, 0);
        for (int at = 0; at < many; at++) {
            covers[other.who(record, 0, at)] |= 1 << i;
        }
    }

    private static DrawnListsTest drawn(long seed) {
        DrawnListsTest test = new DrawnListsTest(seed);
        test.putRings();
        test.fillList();
        return test;
    }

    /** Of each set of HALVES, the fewest BIRDS that cover it. */
    private int[] fewest() {
        int[] cost = new int[1 << listed.size()];
        for (int halves = 1; halves < cost.length; halves++) {
            cost[halves] = LISTED + 1;
            for (int bird = 0; bird < RINGS; bird++) {
                if ((covers[bird] & halves & -halves) != 0) {
                    cost[halves] = Math.min(cost[halves], 1 + cost[halves & ~covers[bird]]);
                }
            }
        }
        return cost;
    }

    /** The greatest set of HALVES that can have a BIRD of their own each, BIRD by BIRD. */
    private int greatest() {
        BitSet sets = new BitSet();
        sets.set(0);
        for (int bird = 0; bird < RINGS; bird++) {
            BitSet next = (BitSet) sets.clone();
            for (int set = sets.nextSetBit(0); set >= 0; set = sets.nextSetBit(set + 1)) {
                for (int i = 0; i < listed.size(); i++) {
                    if ((covers[bird] >> i & 1) == 1) {
                        next.set(set | 1 << i);
                    }
                }
            }
            sets = next;
        }
        int most = 0;
        for (int set = sets.nextSetBit(0); set >= 0; set = sets.nextSetBit(set + 1)) {
            most = Math.max(most, Integer.bitCount(set));
        }
        return most;
    }

    private int[] giving(int[] cost) {
        int[] chosen = new int[listed.size()];
        int all = cost.length - 1;
        int covered = 0;
        long used = 0;
        for (int i = 0; i < chosen.length; i++) {
            for (int bird = 0; bird < RINGS; bird++) {
                long with = used | 1L << bird;
                int rest = all & ~(covered | covers[bird]);
                if ((covers[bird] >> i & 1) == 1 && Long.bitCount(with) + cost[rest] == cost[all]) {
                    chosen[i] = bird;
                    used = with;
                    covered |= covers[bird];
                    break;
                }
            }
        }
        return chosen;
    }

    private void check() {
        for (int i = 0; i < listed.size(); i++) {
            takeFits(drawn(seed).book, i);
        }
        int[] cost = fewest();
        due("least()", book.least(), cost[cost.length - 1]);
        due("most()", book.most(), greatest());
        int[] chosen = giving(cost);
        for (int i = 0; i < chosen.length; i++) {
            due("given(" + i + ")", book.given(i), chosen[i]);
        }
        due("given(" + chosen.length + ")", book.given(chosen.length), BirdBook.NONE);
    }

    public static void main(String[] args) {
        int runs = args.length > 0 ? Integer.parseInt(args[0]) : 60;
        int from = args.length > 1 ? Integer.parseInt(args[1]) : 0;
        for (int seed = from; seed < from + runs; seed++) {
            drawn(seed).check();
        }
        System.out.println(wrong == 0 ? runs + " drawn lists are as due" : wrong + " answers are not as due");
        if (wrong != 0) {
            System.exit(1);
        }
    }
}
