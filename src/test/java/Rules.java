import java.util.ArrayList;
import java.util.Arrays;
import java.util.Comparator;
import java.util.List;
import java.util.Random;
import java.util.TreeMap;

/** The rules of part 1 of the document once more, as plainly as can be, to compare with. */
final class Rules {
    final int[][] men = new int[2][26];
    int turn;

    Rules copy() {
        Rules other = new Rules();
        other.men[0] = men[0].clone();
        other.men[1] = men[1].clone();
        other.turn = turn;
        return other;
    }

    static Rules start() {
        Rules r = new Rules();
        for (int[] own : r.men) {
            own[24] = 2;
            own[13] = 5;
            own[8] = 3;
            own[6] = 5;
        }
        return r;
    }

    boolean over() {
        return men[0][0] == 15 || men[1][0] == 15;
    }

    /** The POSITION behind the MOVE, the TURN as it was; null if there is no such MOVE. */
    Rules move(int p, int d) {
        int[] own = men[turn];
        if (p < 1 || p > 25 || own[p] == 0 || p != 25 && own[25] > 0) {
            return null;
        }
        Rules r = copy();
        r.men[turn][p]--;
        if (p > d) {
            int theirs = 25 - (p - d);
            if (men[1 - turn][theirs] > 1) {
                return null;
            }
            r.men[turn][p - d]++;
            r.men[1 - turn][25] += r.men[1 - turn][theirs];
            r.men[1 - turn][theirs] = 0;
            return r;
        }
        for (int q = 7; q <= 25; q++) {
            if (own[q] > 0) {
                return null;
            }
        }
        for (int q = p + 1; q <= 25 && p < d; q++) {
            if (own[q] > 0) {
                return null;
            }
        }
        r.men[turn][0]++;
        return r;
    }

    /** A row of MOVES as from, to, hits (1, 0) each, the die of the first one, and what it comes to. */
    record Row(List<int[]> moves, int firstDie, Rules behind) {
    }

    List<Row> rows(int a, int b) {
        List<Row> out = new ArrayList<>();
        if (over()) {
            out.add(new Row(new ArrayList<>(), 0, this));
            return out;
        }
        if (a == b) {
            collect(new int[] {a, a, a, a}, 0, new ArrayList<>(), a, out);
        } else {
            collect(new int[] {a, b}, 0, new ArrayList<>(), a, out);
            collect(new int[] {b, a}, 0, new ArrayList<>(), b, out);
        }
        return out;
    }

    private void collect(int[] dice, int k, List<int[]> moves, int firstDie, List<Row> out) {
        out.add(new Row(new ArrayList<>(moves), firstDie, this));
        if (k == dice.length) {
            return;
        }
        for (int p = 1; p <= 25; p++) {
            Rules r = move(p, dice[k]);
            if (r != null) {
                int hit = r.men[1 - turn][25] > men[1 - turn][25] ? 1 : 0;
                moves.add(new int[] {p, Math.max(p - dice[k], 0), hit});
                r.collect(dice, k + 1, moves, firstDie, out);
                moves.remove(moves.size() - 1);
            }
        }
    }

    static List<Row> playsAmong(List<Row> rows, int a, int b) {
        int most = 0;
        boolean greater = false;
        for (Row row : rows) {
            most = Math.max(most, row.moves().size());
            greater |= row.moves().size() == 1 && row.firstDie() == Math.max(a, b);
        }
        List<Row> out = new ArrayList<>();
        for (Row row : rows) {
            if (row.moves().size() == most
                    && (most != 1 || a == b || !greater || row.firstDie() == Math.max(a, b))) {
                out.add(row);
            }
        }
        return out;
    }

    /** The MEN in the order in which RESULTS are looked at. */
    int[] inOrder() {
        int[] out = new int[52];
        for (int k = 0; k < 26; k++) {
            out[k] = men[turn][25 - k];
            out[26 + k] = men[1 - turn][25 - k];
        }
        return out;
    }

    static final Comparator<int[]> MORE_FIRST = (x, y) -> Arrays.compare(y, x);

    /** RESULTS in order, each with its WAY. */
    static TreeMap<int[], int[]> results(List<Row> plays) {
        TreeMap<int[], int[]> out = new TreeMap<>(MORE_FIRST);
        for (Row play : plays) {
            int[] way = play.moves().stream().mapToInt(m -> 32 * m[0] + m[1]).toArray();
            out.merge(play.behind().inOrder(), way, (x, y) -> Arrays.compare(x, y) >= 0 ? x : y);
        }
        return out;
    }

    String text() {
        StringBuilder s = new StringBuilder();
        for (int player = 0; player < 2; player++) {
            String comma = "";
            for (int p = 25; p >= 1; p--) {
                if (men[player][p] > 0) {
                    s.append(comma).append(p).append(':').append(men[player][p]);
                    comma = ",";
                }
            }
            s.append(';');
        }
        return s.append(turn).toString();
    }

    /** A POSITION by chance: both sorts, with MEN on the BAR, borne off, close together, far apart. */
    static Rules random(Random chance) {
        Rules r = new Rules();
        r.turn = chance.nextInt(2);
        int top = new int[] {6, 6, 9, 14, 24, 25, 25}[chance.nextInt(7)];
        for (int player = 0; player < 2; player++) {
            int left = chance.nextInt(5) == 0 ? chance.nextInt(16) : 15 - chance.nextInt(2) * chance.nextInt(12);
            r.men[player][0] = 15 - left;
            int highest = player == r.turn ? top : 25;
            for (int tries = 0; left > 0; tries++) {
                int p = tries > 400 ? 25 : 1 + chance.nextInt(highest);
                if (p == 25 && tries <= 400 && chance.nextInt(2) == 0) {
                    continue;
                }
                if (p < 25 && r.men[1 - player][25 - p] > 0) {
                    continue;
                }
                int many = Math.min(left, 1 + chance.nextInt(2) * chance.nextInt(3));
                r.men[player][p] += many;
                left -= many;
            }
        }
        if (r.men[0][0] == 15 && r.men[1][0] == 15) {
            r.men[1][0] = 14;
            r.men[1][3] = 1;
        }
        return r;
    }
}
