import java.util.ArrayList;
import java.util.Arrays;
import java.util.List;
import java.util.Map;
import java.util.Random;
import java.util.TreeMap;

/** Promises 7 to 11: RESULTS, their order and their WAYS, compared with the rules told once more. */
public final class PlaysTest {
    public static void main(String[] args) {
        edges();
        Random chance = new Random(20261116);
        for (int k = 0; k < 700; k++) {
            compare(Rules.random(chance), 1 + chance.nextInt(6), 1 + chance.nextInt(6), chance);
        }
        fromTheStart(chance);
        many();
        oneBehindTheOther();
        Check.finish("PlaysTest");
    }

    private static void edges() {
        BearHouse x = new BearHouse();
        for (int die : new int[] {0, 7, -1, Integer.MIN_VALUE, Integer.MAX_VALUE}) {
            Check.badArgument("plays(" + die + ", 1)", () -> x.plays(die, 1));
            Check.badArgument("plays(1, " + die + ")", () -> x.plays(1, die));
        }
        Check.due("plays(6, 5)", x.plays(6, 5), x.plays(5, 6));
        int count = x.ask(6);
        for (int i : new int[] {-1, count, Integer.MIN_VALUE, Integer.MAX_VALUE}) {
            Check.noElement("result(" + i + ", 0, 0)", () -> x.result(i, 0, 0));
            Check.noElement("result(" + i + ", 2, 26)", () -> x.result(i, 2, 26));
            Check.noElement("way(" + i + ", 0)", () -> x.way(i, 0));
            Check.noElement("choose(" + i + ")", () -> x.choose(i));
        }
        Check.noIndex("result(0, 2, 0)", () -> x.result(0, 2, 0));
        Check.noIndex("result(0, -1, 0)", () -> x.result(0, -1, 0));
        Check.noIndex("result(0, 0, 26)", () -> x.result(0, 0, 26));
        Check.noIndex("result(0, 1, -1)", () -> x.result(0, 1, -1));
        for (int k : new int[] {-1, 2, 3, 4, Integer.MIN_VALUE, Integer.MAX_VALUE}) {
            Check.due("way(0, " + k + ")", x.way(0, k), -1);
        }
        Check.due("ask(6)", x.ask(6), count);
        Check.due("choose(0)", x.choose(0), 1);
        Check.due("ask(6)", x.ask(6), 0);
    }

    private static void fromTheStart(Random chance) {
        for (int a = 1; a <= 6; a++) {
            for (int b = a; b <= 6; b++) {
                compare(Rules.start(), a, b, chance);
            }
        }
    }

    /** As many RESULTS as there can be: single MEN with room between them. */
    private static void many() {
        Rules r = new Rules();
        for (int p = 10; p <= 24; p++) {
            r.men[0][p] = 1;
        }
        r.men[1][24] = 2;
        r.men[1][0] = 13;
        compare(r, 6, 6, new Random(1));
        compare(r, 5, 5, new Random(1));
        compare(r, 3, 3, new Random(1));
        compare(r, 1, 1, new Random(1));
    }

    /** The RESULTS ahead go, also when there is no MOVE then. */
    private static void oneBehindTheOther() {
        BearHouse x = new BearHouse();
        Check.position(x, "25:1,6:3;1:2,2:2;0");
        Check.due("plays(3, 4)", x.plays(3, 4) > 1 ? 1 : 0, 1);
        Check.due("plays(1, 2)", x.plays(1, 2), 1);
        Check.due("way(0, 0)", x.way(0, 0), -1);
        Check.due("result(0, 0, 25)", x.result(0, 0, 25), 1);
        Check.due("plays(2, 2)", x.plays(2, 2), 1);
        Check.due("plays(3, 2)", x.plays(3, 2), 2);
        Check.due("plays(1, 1)", x.plays(1, 1), 1);
        Check.due("way(0, 0)", x.way(0, 0), -1);
        Check.due("choose(0)", x.choose(0), 1);
        Check.due("men(0, 25)", x.men(0, 25), 1);
    }

    private static void compare(Rules r, int a, int b, Random chance) {
        String name = r.text() + " with " + a + " " + b;
        List<Rules.Row> rows = r.rows(a, b);
        List<Rules.Row> plays = Rules.playsAmong(rows, a, b);
        TreeMap<int[], int[]> want = Rules.results(plays);
        compareResults(r, a, b, name, want);
        BearHouse x = workedOut(r, a, b, name, want.size());
        Check.due("ask(6) " + name, x.ask(6), want.size());
        Check.due("men behind plays " + name, onBoard(x, r.turn), Arrays.toString(r.inOrder()));
        tell(x, name, rows, plays, chance.nextBoolean() ? new int[] {a, b} : new int[] {b, a}, chance);
        int chosen = chance.nextInt(want.size());
        Check.due("choose " + name, x.choose(chosen), 1 - r.turn);
        Check.due("ask(0) " + name, x.ask(0), 1 - r.turn);
        Check.due("men behind choose " + name, onBoard(x, r.turn),
                Arrays.toString(new ArrayList<>(want.keySet()).get(chosen)));
        Check.due("ask(6) behind choose " + name, x.ask(6), 0);
    }

    private static BearHouse workedOut(Rules r, int a, int b, String name, int count) {
        BearHouse x = new BearHouse();
        Check.due("position " + name, Check.position(x, r.text()), 0);
        Check.due("plays " + name, x.plays(a, b), count);
        return x;
    }

    /** Some RESULTS an object: each takes about sixty calls, and an object is good for 512. */
    private static void compareResults(Rules r, int a, int b, String name, TreeMap<int[], int[]> want) {
        BearHouse x = null;
        int i = 0;
        for (Map.Entry<int[], int[]> entry : want.entrySet()) {
            x = i % 7 == 0 ? workedOut(r, a, b, name, want.size()) : x;
            Check.due("result " + i + " " + name, seen(x, i, r.turn), Arrays.toString(entry.getKey()));
            Check.due("way " + i + " " + name, way(x, i), Arrays.toString(entry.getValue()));
            i++;
        }
    }

    private static String seen(BearHouse x, int i, int turn) {
        int[] men = new int[52];
        for (int k = 0; k < 26; k++) {
            men[k] = x.result(i, turn, 25 - k);
            men[26 + k] = x.result(i, 1 - turn, 25 - k);
        }
        return Arrays.toString(men);
    }

    private static String onBoard(BearHouse x, int turn) {
        int[] men = new int[52];
        for (int k = 0; k < 26; k++) {
            men[k] = x.men(turn, 25 - k);
            men[26 + k] = x.men(1 - turn, 25 - k);
        }
        return Arrays.toString(men);
    }

    private static String way(BearHouse x, int i) {
        List<Integer> codes = new ArrayList<>();
        for (int k = 0; x.way(i, k) != -1; k++) {
            codes.add(x.way(i, k));
        }
        return codes.toString();
    }

    /** Tells some rows, PLAYS or not, with right stars and wrong ones. */
    private static void tell(BearHouse x, String name, List<Rules.Row> rows, List<Rules.Row> plays,
            int[] dice, Random chance) {
        List<int[]> order = new ArrayList<>(Rules.results(plays).keySet());
        for (int k = 0; k < 6; k++) {
            List<Rules.Row> from = k < 3 ? plays : rows;
            Rules.Row row = from.get(chance.nextInt(from.size()));
            if (row.moves().isEmpty()) {
                continue;
            }
            int flipped = k % 3 == 2 ? chance.nextInt(row.moves().size()) : -1;
            StringBuilder text = new StringBuilder();
            for (int m = 0; m < row.moves().size(); m++) {
                int[] move = row.moves().get(m);
                boolean star = move[2] == 1 ^ m == flipped;
                text.append(move[0] == 25 ? "bar" : "" + move[0]).append('/')
                        .append(move[1] == 0 ? "off" : "" + move[1]).append(star ? "* " : " ");
            }
            int want = -4;
            if (isAmong(plays, row)) {
                want = -5;
                for (int i = 0; i < order.size() && flipped < 0; i++) {
                    want = Arrays.equals(order.get(i), row.behind().inOrder()) ? i : want;
                }
            }
            Check.due("say " + text + "in " + name, Check.say(x, text.toString(), dice[0], dice[1]), want);
            Check.due("fault of " + text + "in " + name, x.fault(), want < 0 ? text.length() : -1);
            Check.due("ask(6) behind say in " + name, x.ask(6), order.size());
        }
    }

    /** By the MOVES alone: a text does not tell the die. */
    private static boolean isAmong(List<Rules.Row> plays, Rules.Row row) {
        for (Rules.Row play : plays) {
            boolean same = play.moves().size() == row.moves().size();
            for (int m = 0; same && m < row.moves().size(); m++) {
                same = Arrays.equals(play.moves().get(m), row.moves().get(m));
            }
            if (same) {
                return true;
            }
        }
        return false;
    }
}
