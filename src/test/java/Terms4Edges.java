import java.math.BigInteger;
import java.util.Map;
import java.util.TreeMap;

/** The sentences of part 4 of "Terms", bearing off, and those on constants and on 512 calls, each with a test. */
final class Terms4Edges {
    private static final BigInteger DICE = BigInteger.valueOf(36);
    private static final int FEW_PIPS = 8;
    /** More than the rolls that STANDS of so few PIPS can take: all their ROLLS are whole numbers by it. */
    private static final BigInteger SCALE = DICE.pow(FEW_PIPS);

    private Terms4Edges() {
    }

    static void all() {
        holds("BEARING OFF. A STAND tells how many MEN are on POINTS 1 to 6, at most 15 together,",
                Terms4Edges::fifteenTogether);
        holds("as a number: those on 1, 16 times those on 2, 256 times those on 3, and so on;",
                Terms4Edges::asANumber);
        holds("PIPS: the sum of POINT times MEN.", Terms4Edges::pips);
        holds("Its MOVES, PLAYS, RESULTS are those of 1 (all own MEN that are not on it OFF, no MAN of the other "
                + "near), with STANDS for POSITIONS, their order the same.", Terms4Edges::asOnTheBoard);
        holds("ROLLS of a STAND: 0 of none;", Terms4Edges::rollsOfNone);
        holds("else 1 more than the 36th part of the sum, over a and b from 1 to 6, of the least ROLLS of its "
                + "RESULTS with a and b.", Terms4Edges::rolls);
        holds("BEST: of these RESULTS the first one in order that has the least ROLLS.", Terms4Edges::firstOfTheLeast);
        holds("KNOWN are the STANDS of at most LEVEL PIPS (0 at first).", Terms4Edges::known);
        holds("WITHIN n: the chance that none is left behind n rolls, each played by BEST.", Terms4Edges::within);
        holds("RACE of two STANDS: the chance that the first, which rolls first, is none left ahead of the second, "
                + "both by BEST, in turns.", Terms4Edges::race);
        holds("A FRACTION is printed on the PAGE: p/q in lowest terms, decimals without blanks;",
                Terms4Edges::lowestTerms);
        holds("p alone, if q is 1.", Terms4Edges::wholeNumbers);
        Sentences.holds("The constants", "`NONE = -1`: There is none.", Terms4Edges::none);
    }

    private static void holds(String sentence, Runnable test) {
        Sentences.holds("Terms 4", sentence, test);
    }

    static BearHouse learned(int level) {
        BearHouse x = new BearHouse();
        for (int k = 0; k < level; k++) {
            x.learn();
        }
        return x;
    }

    static void printed(BearHouse x, String call, int bytes, String want) {
        Check.due("bytes of " + call, bytes, want.length());
        Check.due("the PAGE of " + call, Check.page(x), want);
    }

    private static String fraction(BigInteger p, BigInteger q) {
        BigInteger g = p.gcd(q);
        return q.equals(g) ? p.divide(g).toString() : p.divide(g) + "/" + q.divide(g);
    }

    private static int on(int stand, int point) {
        return stand >> 4 * (point - 1) & 15;
    }

    private static int sum(int stand) {
        int sum = 0;
        for (int point = 1; point <= 6; point++) {
            sum += point * on(stand, point);
        }
        return sum;
    }

    private static void fifteenTogether() {
        BearHouse x = learned(90);
        for (int stand : new int[] {0xf, 0xf0, 0xf00, 0xf000, 0xf0000, 0xf00000, 0xe00001, 0x1e, 0x333330, 0x333222}) {
            Check.due("rolls of 15 MEN, " + Integer.toHexString(stand), Math.min(x.rolls(stand), 1), 1);
        }
        for (int stand : new int[] {0x1f, 0xf1, 0xf01, 0x1f000, 0xf00001, 0x10000f, 0x88, 0x800008, 0x333331, 0x333223,
            0xff, 0xffffff, 0x444444}) {
            Check.badArgument("rolls of more, " + Integer.toHexString(stand), () -> x.rolls(stand));
            Check.badArgument("best of more, " + Integer.toHexString(stand), () -> x.best(stand, 1, 1));
            Check.badArgument("within of more, " + Integer.toHexString(stand), () -> x.within(stand, 1));
            Check.badArgument("race of more, " + Integer.toHexString(stand), () -> x.race(stand, 1));
            Check.badArgument("race against more, " + Integer.toHexString(stand), () -> x.race(1, stand));
        }
        // There is no POINT 7, and nothing below 0.
        for (int stand : new int[] {0x1000000, 0x1000001, 0x2000000, 0x10000000, 0x40000000, 0xff000000, -1, -16,
            Integer.MIN_VALUE, Integer.MIN_VALUE + 1, Integer.MAX_VALUE}) {
            Check.badArgument("rolls of no STAND, " + stand, () -> x.rolls(stand));
            Check.badArgument("best of no STAND, " + stand, () -> x.best(stand, 1, 1));
        }
    }

    private static void asANumber() {
        BearHouse x = learned(6);
        int[] numbers = {1, 16, 256, 4096, 65536, 1048576};
        String[] rolls = {"1", "1", "1", "19/18", "41/36", "5/4"};
        for (int point = 1; point <= 6; point++) {
            int stand = numbers[point - 1];
            printed(x, "rolls of a MAN on " + point, x.rolls(stand), rolls[point - 1]);
            // 2 and 1 are MOVES by 2, then 1, or by 1, then 2: the MAN is 3 lower.
            Check.due("best of a MAN on " + point, x.best(stand, 2, 1), point <= 3 ? 0 : numbers[point - 4]);
        }
    }

    private static void pips() {
        BearHouse x = new BearHouse();
        int[][] edges = {{1, 1}, {2, 16}, {3, 256}, {4, 4096}, {5, 65536}, {6, 1048576}, {15, 15}, {21, 0x111111},
            {30, 0xf0}, {35, 0xa05}, {45, 0xf00}, {60, 0xf000}, {75, 0xf0000}, {89, 0xe10000}, {90, 0xf00000}};
        for (int[] edge : edges) {
            for (int level = x.ask(7); level < edge[0] - 1; level++) {
                x.learn();
            }
            Check.badState("best of " + edge[0] + " PIPS at one LEVEL less", () -> x.best(edge[1], 1, 1));
            x.learn();
            Check.due("best of " + edge[0] + " PIPS", x.best(edge[1], 1, 1) < edge[1] ? 1 : 0, 1);
        }
    }

    /** The RESULTS of a STAND, in order, by the board: the other's one MAN is on its own POINT 1. */
    private static int[] results(int stand, int a, int b) {
        StringBuilder text = new StringBuilder();
        for (int point = 1; point <= 6; point++) {
            if (on(stand, point) > 0) {
                text.append(text.length() == 0 ? "" : ",").append(point).append(':').append(on(stand, point));
            }
        }
        BearHouse x = Show.at(text + ";1:1;0");
        int[] out = new int[x.plays(a, b)];
        for (int i = 0; i < out.length; i++) {
            if (i % 60 == 59) {
                // An object is good for 512 calls.
                x = Show.at(text + ";1:1;0");
                x.plays(a, b);
            }
            for (int point = 1; point <= 6; point++) {
                out[i] += x.result(i, 0, point) << 4 * (point - 1);
            }
        }
        return out;
    }

    /** ROLLS times SCALE and BEST, of all STANDS of few PIPS, by the board and by the document's words. */
    private static final Map<Integer, BigInteger> LEAST = new TreeMap<>();
    private static final Map<Integer, int[]> BEST = new TreeMap<>();

    private static void workOut() {
        if (!LEAST.isEmpty()) {
            return;
        }
        LEAST.put(0, BigInteger.ZERO);
        for (int stand = 1; stand < 1 << 21; stand++) {
            if (sum(stand) <= FEW_PIPS) {
                BigInteger all = BigInteger.ZERO;
                int[] best = new int[36];
                for (int k = 0; k < 36; k++) {
                    best[k] = -1;
                    for (int r : results(stand, k / 6 + 1, k % 6 + 1)) {
                        if (best[k] == -1 || LEAST.get(r).compareTo(LEAST.get(best[k])) < 0) {
                            best[k] = r;
                        }
                    }
                    all = all.add(LEAST.get(best[k]));
                }
                Check.due("the scale is wide enough", all.mod(DICE).signum(), 0);
                LEAST.put(stand, SCALE.add(all.divide(DICE)));
                BEST.put(stand, best);
            }
        }
        Check.due("STANDS of at most 8 PIPS", LEAST.size(), 64);
    }

    private static void asOnTheBoard() {
        workOut();
        for (Map.Entry<Integer, int[]> entry : BEST.entrySet()) {
            int stand = entry.getKey();
            BearHouse x = learned(sum(stand));
            for (int k = 0; k < 36; k++) {
                Check.due("best(" + stand + ", " + (k / 6 + 1) + ", " + (k % 6 + 1) + ")",
                        x.best(stand, k / 6 + 1, k % 6 + 1), entry.getValue()[k]);
            }
        }
        // With many MEN: it is a RESULT of the board, with each roll.
        for (int stand : new int[] {0xf, 0xf00, 0xf00000, 0x333330, 0x222333, 0x111111, 0x70007}) {
            BearHouse x = learned(sum(stand));
            for (int k = 0; k < 36; k += 5) {
                int best = x.best(stand, k / 6 + 1, k % 6 + 1);
                boolean found = false;
                for (int r : results(stand, k / 6 + 1, k % 6 + 1)) {
                    found |= r == best;
                }
                Check.due("best of " + Integer.toHexString(stand) + " is a RESULT", found ? 1 : 0, 1);
            }
        }
        BearHouse x = learned(90);
        Check.due("best(0, 6, 5): the empty row", x.best(0, 6, 5), 0);
        Check.due("four of 15 go from 6 to 5", x.best(0xf00000, 1, 1), 0xb40000);
        Check.due("four of 15 go OFF", x.best(0xf00000, 6, 6), 0xb00000);
        Check.due("two of 15 go OFF", x.best(0xf, 6, 1), 0xd);
        Check.due("four of 15 on 1 go OFF", x.best(0xf, 1, 1), 0xb);
    }

    private static void rollsOfNone() {
        BearHouse x = new BearHouse();
        printed(x, "rolls(0) at LEVEL 0", x.rolls(0), "0");
        BearHouse y = learned(3);
        printed(y, "rolls(3)", y.rolls(3), "11/6");
        printed(y, "rolls(0) at LEVEL 3", y.rolls(0), "0");
    }

    private static void rolls() {
        workOut();
        BearHouse x = learned(FEW_PIPS);
        for (Map.Entry<Integer, BigInteger> entry : LEAST.entrySet()) {
            int stand = entry.getKey();
            if (stand % 16 == 0) {
                x = learned(FEW_PIPS);
            }
            printed(x, "rolls(" + stand + ")", x.rolls(stand), fraction(entry.getValue(), SCALE));
        }
        // MEN on 1 alone: two go with unlike dice, four with alike ones.
        BearHouse y = learned(15);
        BigInteger[] least = new BigInteger[16];
        for (int men = 0; men <= 15; men++) {
            least[men] = BigInteger.ZERO;
            if (men > 0) {
                BigInteger unlike = BigInteger.valueOf(30).multiply(least[Math.max(men - 2, 0)]);
                BigInteger alike = BigInteger.valueOf(6).multiply(least[Math.max(men - 4, 0)]);
                least[men] = SCALE.add(unlike.add(alike).divide(DICE));
            }
            printed(y, "rolls(" + men + ")", y.rolls(men), fraction(least[men], SCALE));
        }
        // The largest STAND there is.
        BearHouse z = learned(90);
        printed(z, "rolls(0xf00000)", z.rolls(0xf00000), "1016394181796071236653772409316423644799615/"
                + "82861460335098703154369358103052103450624");
    }

    private static void firstOfTheLeast() {
        BearHouse x = learned(20);
        // Both RESULTS take one roll (or 11/6): the first in order has the more MEN on the higher POINT.
        int[][] ties = {{0x12, 1, 2, 0x2}, {0x12, 1, 6, 0x2}, {0x21, 1, 2, 0x10}, {0x21, 6, 1, 0x10},
            {0x102, 1, 3, 0x2}, {0x102, 2, 6, 0x2}, {0x110, 1, 2, 0x10}, {0x110, 1, 6, 0x10},
            {0x1001, 2, 1, 0x10}, {0x14, 1, 1, 0x10},
            {0x14, 1, 2, 0x4}, {0x14, 6, 1, 0x4}, {0x23, 2, 1, 0x12}, {0x23, 1, 6, 0x12}};
        for (int[] tie : ties) {
            Check.due("best(" + tie[0] + ", " + tie[1] + ", " + tie[2] + ")", x.best(tie[0], tie[1], tie[2]), tie[3]);
            Check.due("best(" + tie[0] + ", " + tie[2] + ", " + tie[1] + ")", x.best(tie[0], tie[2], tie[1]), tie[3]);
        }
        // The least ROLLS come ahead of the order: 1 would be the first of 0x11, 3 of 0x13.
        Check.due("best(0x11, 1, 2)", x.best(0x11, 1, 2), 0);
        Check.due("best(0x101, 2, 6)", x.best(0x101, 2, 6), 0);
        Check.due("best(0x13, 2, 1)", x.best(0x13, 2, 1), 2);
    }

    private static void known() {
        BearHouse x = new BearHouse();
        Check.due("LEVEL at first", x.ask(7), 0);
        printed(x, "rolls(0)", x.rolls(0), "0");
        Check.due("best(0, 1, 2)", x.best(0, 1, 2), 0);
        printed(x, "within(0, 3)", x.within(0, 3), "1");
        Check.badState("rolls(1) at LEVEL 0", () -> x.rolls(1));
        Check.badState("race(0, 1) at LEVEL 0", () -> x.race(0, 1));
        x.learn();
        printed(x, "rolls(1) at LEVEL 1", x.rolls(1), "1");
        Check.badState("rolls(2) at LEVEL 1", () -> x.rolls(2));
        Check.badState("rolls(16) at LEVEL 1", () -> x.rolls(16));
        x.learn();
        printed(x, "rolls(2) at LEVEL 2", x.rolls(2), "1");
        printed(x, "rolls(16) at LEVEL 2", x.rolls(16), "1");
        Check.badState("rolls(17) at LEVEL 2", () -> x.rolls(17));
        // By PIPS, not by the number: 0x100 has 3, 0xf has 15.
        BearHouse y = learned(14);
        Check.badState("rolls(15) at LEVEL 14", () -> y.rolls(15));
        Check.due("rolls(0x200010) at LEVEL 14", Math.min(y.rolls(0x200010), 1), 1);
        y.learn();
        printed(y, "rolls(15) at LEVEL 15", y.rolls(15), "1953839/279936");
        BearHouse z = learned(89);
        Check.badState("rolls(0xf00000) at LEVEL 89", () -> z.rolls(0xf00000));
        Check.due("best(0xe10000, 6, 6) at LEVEL 89", z.best(0xe10000, 6, 6), 0xa10000);
        z.learn();
        Check.due("best(0xf00000, 6, 6) at LEVEL 90", z.best(0xf00000, 6, 6), 0xb00000);
    }

    /** WITHIN n of so many MEN on 1, times 36 to the n. */
    private static BigInteger ones(int men, int n) {
        if (men <= 0) {
            return DICE.pow(n);
        }
        return n == 0 ? BigInteger.ZERO : BigInteger.valueOf(30).multiply(ones(men - 2, n - 1))
                .add(BigInteger.valueOf(6).multiply(ones(men - 4, n - 1)));
    }

    private static void within() {
        for (int men = 0; men <= 15; men++) {
            BearHouse x = learned(15);
            for (int n = 0; n <= 12; n++) {
                printed(x, "within(" + men + ", " + n + ")", x.within(men, n), fraction(ones(men, n), DICE.pow(n)));
            }
        }
        BearHouse x = learned(35);
        printed(x, "within(0x100000, 0)", x.within(0x100000, 0), "0");
        printed(x, "within(0x100000, 1)", x.within(0x100000, 1), "3/4");
        printed(x, "within(0x100000, 2)", x.within(0x100000, 2), "1");
        printed(x, "within(0, 0)", x.within(0, 0), "1");
        printed(x, "within(0xa05, 12)", x.within(0xa05, 12), "128536820158439/128536820158464");
        // By BEST, though another play would bring 335/1296.
        printed(x, "within(0x140, 2)", x.within(0x140, 2), "37/144");
        BearHouse y = learned(90);
        printed(y, "within(0xf00000, 3)", y.within(0xf00000, 3), "0");
        printed(y, "within(0xf00000, 4)", y.within(0xf00000, 4), "1/1679616");
        printed(y, "within(0xf00000, 12)", y.within(0xf00000, 12), "1274858833674410011/2369190669160808448");
    }

    private static void race() {
        BearHouse x = learned(6);
        printed(x, "race(0x100000, 1)", x.race(0x100000, 1), "3/4");
        printed(x, "race(1, 0x100000)", x.race(1, 0x100000), "1");
        printed(x, "race(0x100000, 0x100000)", x.race(0x100000, 0x100000), "13/16");
        printed(x, "race(0, 0x100000)", x.race(0, 0x100000), "1");
        printed(x, "race(0x100000, 0)", x.race(0x100000, 0), "0");
        for (int first = 0; first <= 15; first++) {
            for (int second = first == 0 ? 1 : 0; second <= 15; second++) {
                BigInteger sum = first == 0 ? DICE.pow(24) : BigInteger.ZERO;
                for (int n = 1; n <= 12 && first > 0; n++) {
                    BigInteger justNow = ones(first, n).subtract(ones(first, n - 1).multiply(DICE));
                    BigInteger notYet = DICE.pow(n - 1).subtract(ones(second, n - 1));
                    sum = sum.add(justNow.multiply(notYet).multiply(DICE.pow(25 - 2 * n)));
                }
                BearHouse y = learned(15);
                printed(y, "race(" + first + ", " + second + ")", y.race(first, second), fraction(sum, DICE.pow(24)));
            }
        }
        BearHouse z = learned(36);
        printed(z, "race(0x42032, 0x23070)", z.race(0x42032, 0x23070),
                "13130348382427792806271421612641/16918235275724100929608539439104");
        printed(z, "race(0xc00, 1)", z.race(0xc00, 1), "0");
        printed(z, "race(1, 0xc00)", z.race(1, 0xc00), "1");
    }

    private static void lowestTerms() {
        BearHouse x = learned(11);
        printed(x, "6/36", x.within(3, 1), "1/6");
        printed(x, "27/36", x.within(0x100000, 1), "3/4");
        printed(x, "31/36", x.within(0x10000, 1), "31/36");
        printed(x, "34/36", x.within(0x1000, 1), "17/18");
        printed(x, "41/36", x.rolls(0x10000), "41/36");
        printed(x, "within(0x140, 2)", x.within(0x140, 2), "37/144");
        for (int stand : new int[] {0xf00000, 0x333330, 0x123432, 0xf00, 0x70007, 0x555}) {
            BearHouse y = learned(sum(stand));
            y.rolls(stand);
            String text = Check.page(y);
            Check.due("digits, a stroke, digits: " + text, text.matches("[1-9][0-9]*/[1-9][0-9]*") ? 1 : 0, 1);
            String[] parts = text.split("/");
            Check.due("lowest terms: " + text, new BigInteger(parts[0]).gcd(new BigInteger(parts[1])).intValue(), 1);
        }
        // A shorter one leaves nothing of the one ahead.
        x.rolls(0x10000);
        printed(x, "rolls(1)", x.rolls(1), "1");
        Check.due("octet(1)", x.octet(1), -1);
    }

    private static void wholeNumbers() {
        BearHouse x = learned(6);
        printed(x, "rolls(0)", x.rolls(0), "0");
        printed(x, "rolls(0x11)", x.rolls(0x11), "1");
        printed(x, "within(5, 1)", x.within(5, 1), "0");
        printed(x, "within(5, 0)", x.within(5, 0), "0");
        printed(x, "within(5, 12)", x.within(5, 12), "1");
        printed(x, "race(1, 5)", x.race(1, 5), "1");
        printed(x, "race(5, 1)", x.race(5, 1), "0");
    }

    private static void none() {
        BearHouse x = new BearHouse();
        Check.due("NONE", BearHouse.NONE, -1);
        Check.due("fault() without one", x.fault(), BearHouse.NONE);
        Check.due("octet(0) without one", x.octet(0), BearHouse.NONE);
        Check.due("match(4), nobody's", x.match(4), BearHouse.NONE);
        Check.due("match(9), nobody", x.match(9), BearHouse.NONE);
        x.plays(2, 1);
        Check.due("way(0, 2) without one", x.way(0, 2), BearHouse.NONE);
        for (int k = 0; k < 20; k++) {
            x.feed(0, 0, 0, 0, 0);
        }
        Check.due("feed() without room", x.feed(0, 0, 0, 0, 0), BearHouse.NONE);
    }
}
