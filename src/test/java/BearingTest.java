import java.math.BigInteger;
import java.util.ArrayList;
import java.util.Arrays;
import java.util.HashMap;
import java.util.List;
import java.util.Map;
import java.util.Random;
import java.util.TreeSet;

/**
 * Promises 19 to 24, compared with part 4 of the document worked out once more in big numbers. Some of
 * the STANDS are asked for; with "all" among the arguments every one, which takes about half an hour.
 */
public final class BearingTest {
    private static final BigInteger ROLLS = BigInteger.valueOf(36);
    private static final BigInteger SCALE = ROLLS.pow(40);
    private static final Map<Integer, BigInteger> LEAST = new HashMap<>();
    private static final Map<Integer, int[]> BEST = new HashMap<>();
    private static final Map<Long, BigInteger> WITHIN = new HashMap<>();
    private static final List<Integer> ALL = new ArrayList<>();

    public static void main(String[] args) {
        workOut();
        learning();
        knownFirst();
        knownFrom(0, 45);
        knownFrom(45, 90);
        wrongArguments();
        smallOnes();
        Random chance = new Random(36);
        stands(chance, Arrays.asList(args).contains("all") ? 1 : 97);
        alone();
        races(chance);
        Check.finish("BearingTest");
    }

    private static int onPoint(int stand, int p) {
        return stand >> 4 * (p - 1) & 15;
    }

    private static int men(int stand) {
        int sum = 0;
        for (int p = 1; p <= 6; p++) {
            sum += onPoint(stand, p);
        }
        return sum;
    }

    private static int pips(int stand) {
        int sum = 0;
        for (int p = 1; p <= 6; p++) {
            sum += p * onPoint(stand, p);
        }
        return sum;
    }

    private static void collect(int stand, int[] dice, int k, List<int[]> out) {
        boolean moved = false;
        for (int p = 1; p <= 6 && k < dice.length; p++) {
            int d = dice[k];
            if (onPoint(stand, p) > 0 && (p >= d || stand >> 4 * p == 0)) {
                int rest = stand - (1 << 4 * (p - 1));
                collect(p > d ? rest + (1 << 4 * (p - d - 1)) : rest, dice, k + 1, out);
                moved = true;
            }
        }
        if (!moved) {
            out.add(new int[] {stand, k});
        }
    }

    /** In order: the one with more MEN on 6 first, so the greatest number. */
    private static TreeSet<Integer> results(int stand, int a, int b) {
        List<int[]> rows = new ArrayList<>();
        if (a == b) {
            collect(stand, new int[] {a, a, a, a}, 0, rows);
        } else {
            collect(stand, new int[] {a, b}, 0, rows);
            collect(stand, new int[] {b, a}, 0, rows);
        }
        int most = rows.stream().mapToInt(r -> r[1]).max().getAsInt();
        TreeSet<Integer> out = new TreeSet<>((x, y) -> y - x);
        rows.stream().filter(r -> r[1] == most).forEach(r -> out.add(r[0]));
        return out;
    }

    private static void workOut() {
        for (int stand = 0; stand < 1 << 24; stand++) {
            if (men(stand) <= 15) {
                ALL.add(stand);
            }
        }
        LEAST.put(0, BigInteger.ZERO);
        for (int stand : ALL) {
            int[] best = new int[36];
            BigInteger sum = BigInteger.ZERO;
            for (int a = 1; a <= 6; a++) {
                for (int b = 1; b <= 6; b++) {
                    int at = 6 * (a - 1) + b - 1;
                    best[at] = b < a ? best[6 * (b - 1) + a - 1] : firstLeast(stand, a, b);
                    sum = sum.add(LEAST.get(best[at]));
                }
            }
            BEST.put(stand, best);
            if (stand != 0) {
                BigInteger[] part = sum.divideAndRemainder(ROLLS);
                Check.due("the scale is wide enough", part[1].signum(), 0);
                LEAST.put(stand, part[0].add(SCALE));
            }
        }
    }

    private static int firstLeast(int stand, int a, int b) {
        int first = -1;
        for (int r : results(stand, a, b)) {
            if (first < 0 || LEAST.get(r).compareTo(LEAST.get(first)) < 0) {
                first = r;
            }
        }
        return first;
    }

    /** Times 36 to the n. */
    private static BigInteger within(int stand, int n) {
        if (stand == 0) {
            return ROLLS.pow(n);
        }
        if (n == 0) {
            return BigInteger.ZERO;
        }
        BigInteger known = WITHIN.get(13L * stand + n);
        if (known == null) {
            known = BigInteger.ZERO;
            for (int next : BEST.get(stand)) {
                known = known.add(within(next, n - 1));
            }
            WITHIN.put(13L * stand + n, known);
        }
        return known;
    }

    /** Times 36 to the 24th: the one who rolls now wins at once, or the other one does not win behind. */
    private static BigInteger raceOf(int first, int second) {
        BigInteger sum = second == 0 ? BigInteger.ZERO : within(first, 0).multiply(ROLLS.pow(24));
        for (int n = 1; n <= 12; n++) {
            BigInteger justAt = within(first, n).subtract(within(first, n - 1).multiply(ROLLS));
            BigInteger notYet = ROLLS.pow(n - 1).subtract(within(second, n - 1));
            sum = sum.add(justAt.multiply(notYet).multiply(ROLLS.pow(24 - n - (n - 1))));
        }
        return sum;
    }

    private static String fraction(BigInteger p, BigInteger q) {
        BigInteger g = p.gcd(q);
        return q.equals(g) ? p.divide(g).toString() : p.divide(g) + "/" + q.divide(g);
    }

    private static BearHouse learned(int level) {
        BearHouse x = new BearHouse();
        for (int k = 0; k < level; k++) {
            x.learn();
        }
        return x;
    }

    private static void learning() {
        int[] want = new int[91];
        for (int stand : ALL) {
            want[pips(stand)]++;
        }
        BearHouse x = new BearHouse();
        for (int level = 1; level <= 90; level++) {
            Check.due("learn() to " + level, x.learn(), want[level]);
            Check.due("ask(7)", x.ask(7), level);
        }
        Check.badState("learn() beyond 90", x::learn);
        Check.due("ask(7)", x.ask(7), 90);
        x.begin(3);
        Check.due("ask(7) in a match", x.ask(7), 90);
    }

    private static void knownFirst() {
        BearHouse x = new BearHouse();
        Check.due("rolls(0) at LEVEL 0", x.rolls(0), 1);
        Check.due("page", Check.page(x), "0");
        Check.due("best(0, 6, 6)", x.best(0, 6, 6), 0);
        Check.due("best(0, 2, 1)", x.best(0, 2, 1), 0);
        Check.due("within(0, 0)", x.within(0, 0), 1);
        Check.due("page", Check.page(x), "1");
        Check.due("within(0, 12)", x.within(0, 12), 1);
        Check.due("page", Check.page(x), "1");
    }

    private static void knownFrom(int least, int most) {
        BearHouse x = learned(least);
        for (int level = least; level < most; level++) {
            int[] men = new int[7];
            int left = level + 1;
            for (int p = 6; p >= 1; p--) {
                men[p] = left / p;
                left -= men[p] * p;
            }
            int stand = men[1] + 16 * men[2] + 256 * men[3] + 4096 * men[4] + 65536 * men[5] + 1048576 * men[6];
            Check.badState("rolls at LEVEL " + level, () -> x.rolls(stand));
            Check.badState("best at LEVEL " + level, () -> x.best(stand, 1, 1));
            Check.badState("within at LEVEL " + level, () -> x.within(stand, 1));
            Check.badState("race at LEVEL " + level, () -> x.race(stand, 0));
            Check.badState("race at LEVEL " + level, () -> x.race(0, stand));
            x.learn();
            Check.due("rolls at LEVEL " + (level + 1), x.rolls(stand) > 0 ? 1 : 0, 1);
        }
    }

    private static void wrongArguments() {
        BearHouse x = learned(12);
        x.rolls(3);
        for (int stand : new int[] {-1, 16777216, 0x10000000, 0xf1, 0x88, 0xffffff, 0x100000f, 0x790000,
            Integer.MIN_VALUE, Integer.MAX_VALUE}) {
            Check.badArgument("rolls(" + stand + ")", () -> x.rolls(stand));
            Check.badArgument("best(" + stand + ", 1, 1)", () -> x.best(stand, 1, 1));
            Check.badArgument("within(" + stand + ", 1)", () -> x.within(stand, 1));
            Check.badArgument("race(" + stand + ", 1)", () -> x.race(stand, 1));
            Check.badArgument("race(1, " + stand + ")", () -> x.race(1, stand));
        }
        Check.badState("rolls(0x111119) has 14 MEN", () -> x.rolls(0x111119));
        Check.badArgument("rolls(0x11111b) has 16", () -> x.rolls(0x11111b));
        for (int die : new int[] {0, 7, Integer.MIN_VALUE, Integer.MAX_VALUE}) {
            Check.badArgument("best(1, " + die + ", 1)", () -> x.best(1, die, 1));
            Check.badArgument("best(1, 1, " + die + ")", () -> x.best(1, 1, die));
            Check.badArgument("best, not KNOWN, die " + die, () -> x.best(0x300000, 1, die));
        }
        for (int n : new int[] {-1, 13, Integer.MIN_VALUE, Integer.MAX_VALUE}) {
            Check.badArgument("within(1, " + n + ")", () -> x.within(1, n));
            Check.badArgument("within, not KNOWN, " + n, () -> x.within(0x300000, n));
        }
        Check.throwing(UnsupportedOperationException.class, "race(0, 0)", () -> x.race(0, 0));
        Check.badArgument("race(0x300000, -1)", () -> x.race(0x300000, -1));
        Check.due("the PAGE stays", Check.page(x), "11/6");
    }

    private static void smallOnes() {
        BearHouse x = learned(12);
        printed(x, "rolls(0x100000)", x.rolls(0x100000), "5/4");
        printed(x, "within(0x100000, 1)", x.within(0x100000, 1), "3/4");
        printed(x, "within(0x100000, 0)", x.within(0x100000, 0), "0");
        printed(x, "within(0x100000, 2)", x.within(0x100000, 2), "1");
        printed(x, "race(0x100000, 1)", x.race(0x100000, 1), "3/4");
        printed(x, "race(1, 0x100000)", x.race(1, 0x100000), "1");
        printed(x, "race(0x100000, 0x100000)", x.race(0x100000, 0x100000), "13/16");
        printed(x, "race(0, 0x100000)", x.race(0, 0x100000), "1");
        printed(x, "race(0x100000, 0)", x.race(0x100000, 0), "0");
        BearHouse y = learned(12);
        printed(y, "race(0x100000, 0x100000), asked first", y.race(0x100000, 0x100000), "13/16");
        BearHouse z = learned(12);
        printed(z, "race(0, 1), asked first", z.race(0, 1), "1");
        Check.due("best(0x100000, 6, 1)", x.best(0x100000, 6, 1), 0);
        Check.due("best(0x100000, 1, 2)", x.best(0x100000, 1, 2), 0x100);
        Check.due("octet(4)", x.octet(4), -1);
    }

    private static void printed(BearHouse x, String call, int bytes, String want) {
        Check.due(call, bytes, want.length());
        Check.due("the PAGE of " + call, Check.page(x), want);
    }

    /** All with few MEN, and of the others some. Two an object: each takes up to 170 of its 512 calls. */
    private static void stands(Random chance, int step) {
        BearHouse x = null;
        int asked = 0;
        for (int k = 0; k < ALL.size(); k++) {
            int stand = ALL.get(k);
            if (k % step != 0 && men(stand) > 3 && stand != 0xf00000) {
                continue;
            }
            x = asked % 2 == 0 ? learned(90) : x;
            asked++;
            printed(x, "rolls(" + stand + ")", x.rolls(stand), fraction(LEAST.get(stand), SCALE));
            for (int at = 0; at < 36; at++) {
                Check.due("best(" + stand + ", .., ..) " + at, x.best(stand, at / 6 + 1, at % 6 + 1),
                        BEST.get(stand)[at]);
            }
            int n = chance.nextInt(13);
            printed(x, "within(" + stand + ", " + n + ")", x.within(stand, n),
                    fraction(within(stand, n), ROLLS.pow(n)));
        }
    }

    /** Asked alone, on a new object of just so many PIPS, the answer is the same. */
    private static void alone() {
        for (int stand : new int[] {0xf00000, 0x333330, 0x00000f, 0x210210, 0x100000 * 7 + 8}) {
            BearHouse y = learned(pips(stand));
            printed(y, "rolls(" + stand + ")", y.rolls(stand), fraction(LEAST.get(stand), SCALE));
            BearHouse z = learned(pips(stand));
            printed(z, "within(" + stand + ", 12)", z.within(stand, 12), fraction(within(stand, 12), ROLLS.pow(12)));
            BearHouse u = learned(90);
            Check.due("best(" + stand + ", 2, 1)", u.best(stand, 2, 1), BEST.get(stand)[6]);
        }
    }

    private static boolean sure(int stand) {
        return within(stand, 12).equals(ROLLS.pow(12));
    }

    /** Five an object: each takes up to 80 of its 512 calls. Few of large STANDS, since these are slow. */
    private static void races(Random chance) {
        BearHouse x = null;
        int unsure = 0;
        int longest = 0;
        for (int k = 0; k < 500; k++) {
            x = k % 5 == 0 ? learned(90) : x;
            int bound = k / 5 % 8 == 0 ? 54264 : 3000;
            int first = ALL.get(chance.nextInt(bound));
            int second = ALL.get(chance.nextInt(bound));
            if (sure(first) && sure(second)) {
                longest = Math.max(longest, fraction(raceOf(first, second), ROLLS.pow(24)).length());
            } else {
                unsure++;
            }
            race(x, first, second);
        }
        Check.due("some races were not sure", unsure > 20 ? 1 : 0, 1);
        Check.due("some races were long", longest > 60 ? 1 : 0, 1);
    }

    private static void race(BearHouse x, int first, int second) {
        String call = "race(" + first + ", " + second + ")";
        if (first == 0 && second == 0) {
            Check.throwing(UnsupportedOperationException.class, call, () -> x.race(0, 0));
        } else if (sure(first) && sure(second)) {
            printed(x, call, x.race(first, second), fraction(raceOf(first, second), ROLLS.pow(24)));
        } else {
            Check.badState(call, () -> x.race(first, second));
        }
    }
}
