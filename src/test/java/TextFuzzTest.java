import java.util.Arrays;
import java.util.List;
import java.util.Random;

/** Promises 3, 4, 11 on texts by chance, compared with TextRules. */
public final class TextFuzzTest {
    public static void main(String[] args) {
        int[] seen = new int[8];
        for (int k = 0; k < 20000; k++) {
            Random chance = new Random(k);
            seen[comparePosition(chance)]++;
        }
        for (int fault = 0; fault <= 6; fault++) {
            Check.due("POSITIONS with FAULT " + fault + " were seen", seen[fault] > 100 ? 1 : 0, 1);
        }
        Arrays.fill(seen, 0);
        for (int k = 0; k < 20000; k++) {
            Random chance = new Random(k);
            seen[compareMoves(chance)]++;
        }
        for (int fault : new int[] {0, 1, 2, 3, 4, 7}) {
            Check.due("MOVES with FAULT " + fault + " were seen: " + seen[fault], seen[fault] > 100 ? 1 : 0, 1);
        }
        Check.finish("TextFuzzTest");
    }

    private static String spoilt(String text, Random chance, String letters) {
        StringBuilder out = new StringBuilder(text);
        for (int k = chance.nextInt(3); k > 0; k--) {
            int place = chance.nextInt(out.length() + 1);
            char letter = letters.charAt(chance.nextInt(letters.length()));
            if (chance.nextInt(3) == 0 || place == out.length()) {
                out.insert(place, letter);
            } else if (chance.nextInt(2) == 0) {
                out.setCharAt(place, letter);
            } else {
                out.deleteCharAt(place);
            }
        }
        return out.toString();
    }

    private static int comparePosition(Random chance) {
        StringBuilder text = new StringBuilder();
        for (int player = 0; player < 2; player++) {
            for (int k = chance.nextInt(4); k > 0; k--) {
                text.append(1 + chance.nextInt(25)).append(':').append(1 + chance.nextInt(7)).append(k > 1 ? "," : "");
            }
            text.append(';');
        }
        String whole = text.append(chance.nextInt(2)).toString();
        whole = chance.nextBoolean() ? whole : spoilt(whole, chance, "0123456789;:, \nx");
        TextRules told = new TextRules(whole);
        int fault = 0;
        int place = -1;
        try {
            told.position();
        } catch (TextRules.Fault f) {
            fault = f.number;
            place = f.place;
        }
        BearHouse x = new BearHouse();
        Check.due("position \"" + whole + "\"", Check.position(x, whole), fault);
        Check.due("fault() of \"" + whole + "\"", x.fault(), place);
        if (fault == 0) {
            Check.due("the POSITION of \"" + whole + "\"", Show.board(x), told.rules.text());
        }
        return fault;
    }

    /** Now and then a wrong one. */
    private static String star(int[] move, Random chance) {
        return move[2] == 1 ^ chance.nextInt(15) == 0 ? "*" : "";
    }

    private static String name(int point, String named) {
        return point == 25 || point == 0 ? named : "" + point;
    }

    private static int compareMoves(Random chance) {
        Rules rules = Rules.random(chance);
        int a = 1 + chance.nextInt(6);
        int b = chance.nextInt(3) == 0 ? a : 1 + chance.nextInt(6);
        List<Rules.Row> rows = rules.rows(a, b);
        List<Rules.Row> plays = Rules.playsAmong(rows, a, b);
        List<Rules.Row> from = chance.nextInt(3) == 0 ? rows : plays;
        Rules.Row row = from.get(chance.nextInt(from.size()));
        String whole = written(row.moves(), chance);
        whole = chance.nextInt(3) > 0 ? whole : spoilt(whole, chance, "0123456789/*() \nbarof");
        whole = chance.nextInt(9) > 0 ? whole : whole.repeat(4);
        TextRules told = new TextRules(whole);
        int fault = 0;
        int place = -1;
        int want = -1;
        try {
            told.moves();
            want = told.find(plays);
            fault = want == -3 ? 3 : want == -4 ? 4 : 0;
            place = fault == 0 ? -1 : whole.length();
        } catch (TextRules.Fault f) {
            fault = f.number;
            place = f.place;
        }
        BearHouse x = new BearHouse();
        Check.position(x, rules.text());
        String call = "say \"" + whole + "\" in " + rules.text() + " with " + a + ", " + b;
        Check.due(call, Check.say(x, whole, a, b), fault == 0 ? want : -1 - fault);
        Check.due("fault() of " + call, x.fault(), place);
        return fault;
    }

    /** In short, now and then: the same MOVE again in brackets, and one that goes on as a step. */
    private static String written(List<int[]> moves, Random chance) {
        StringBuilder text = new StringBuilder();
        int k = 0;
        while (k < moves.size()) {
            int[] m = moves.get(k);
            text.append(name(m[0], "bar")).append('/').append(name(m[1], "off")).append(star(m, chance));
            int same = 1;
            while (k + same < moves.size() && Arrays.equals(moves.get(k + same), 0, 2, m, 0, 2)) {
                same++;
            }
            if (same > 1 && chance.nextBoolean()) {
                text.append('(').append(same).append(')');
                k += same - 1;
            } else {
                while (k + 1 < moves.size() && moves.get(k + 1)[0] == m[1] && chance.nextBoolean()) {
                    m = moves.get(++k);
                    text.append('/').append(name(m[1], "off")).append(star(m, chance));
                }
            }
            text.append(chance.nextInt(5) == 0 ? "\n" : " ");
            k++;
        }
        return text.toString();
    }
}
