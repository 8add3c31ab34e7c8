import java.util.ArrayList;
import java.util.Arrays;
import java.util.List;

/** Part 2 of the document once more, to compare with: first all tokens, then what they tell. */
final class TextRules {
    private static final int END = 0;
    private static final int NUMBER = 1;
    private static final int WORD = 2;
    private static final int OTHER = 3;

    /** A token, or at the end of the text none. */
    private record Token(int kind, String text, int place) {
        boolean is(String want) {
            return kind != END && text.equals(want);
        }

        boolean isTooLong() {
            return text.length() > 2;
        }

        int value() {
            return Integer.parseInt(text);
        }
    }

    /** Ends the reading of a text: its FAULT and the FAULT's place. */
    static final class Fault extends RuntimeException {
        private static final long serialVersionUID = 1;
        final int number;
        final int place;

        Fault(int number, int place) {
            this.number = number;
            this.place = place;
        }
    }

    private final List<Token> tokens = new ArrayList<>();
    private int at;
    final Rules rules = new Rules();
    private final List<int[]> moves = new ArrayList<>();

    TextRules(String text) {
        int k = 0;
        while (k < text.length()) {
            char c = text.charAt(k);
            int start = k++;
            if (c == ' ' || c == '\n') {
                continue;
            }
            String digits = "0123456789";
            String letters = "abcdefghijklmnopqrstuvwxyz";
            int kind = digits.indexOf(c) >= 0 ? NUMBER : letters.indexOf(c) >= 0 ? WORD : OTHER;
            String same = kind == NUMBER ? digits : kind == WORD ? letters : "";
            while (k < text.length() && same.indexOf(text.charAt(k)) >= 0) {
                k++;
            }
            tokens.add(new Token(kind, text.substring(start, k), start));
        }
        tokens.add(new Token(END, "", text.length()));
    }

    private Token here() {
        return tokens.get(at);
    }

    private int number(int least, int most) {
        if (here().kind() != NUMBER) {
            throw new Fault(1, here().place());
        }
        if (here().isTooLong() || here().value() < least || here().value() > most) {
            throw new Fault(2, here().place());
        }
        return here().value();
    }

    private void pass(String want) {
        if (!here().is(want)) {
            throw new Fault(1, here().place());
        }
        at++;
    }

    private void end() {
        if (here().kind() != END) {
            throw new Fault(1, here().place());
        }
    }

    void position() {
        for (int player = 0; player < 2; player++) {
            int left = 15;
            while (left >= 0 && !here().is(";")) {
                left = stack(player, left);
                if (!here().is(",")) {
                    break;
                }
                at++;
                number(1, 25);
            }
            rules.men[player][0] = left;
            pass(";");
        }
        rules.turn = number(0, 1);
        if (rules.men[0][0] == 15 && rules.men[1][0] == 15) {
            throw new Fault(6, here().place());
        }
        at++;
        end();
    }

    private int stack(int player, int left) {
        int point = number(1, 25);
        if (rules.men[player][point] > 0) {
            throw new Fault(3, here().place());
        }
        if (player == 1 && point < 25 && rules.men[0][25 - point] > 0) {
            throw new Fault(5, here().place());
        }
        at++;
        pass(":");
        int many = number(1, 15);
        if (many > left) {
            throw new Fault(4, here().place());
        }
        at++;
        rules.men[player][point] = many;
        return left - many;
    }

    private int point(String word, int named) {
        return here().is(word) ? named : number(1, 24);
    }

    void moves() {
        do {
            int first = moves.size();
            int from = point("bar", 25);
            at++;
            do {
                pass("/");
                int to = point("off", 0);
                if (moves.size() == 8) {
                    throw new Fault(7, here().place());
                }
                at++;
                boolean star = here().is("*");
                at += star ? 1 : 0;
                moves.add(new int[] {from, to, star ? 1 : 0});
                from = to;
            } while (here().is("/"));
            if (here().is("(")) {
                at++;
                times(first);
            }
        } while (here().kind() != END);
    }

    private void times(int first) {
        int many = number(2, 4);
        List<int[]> once = new ArrayList<>(moves.subList(first, moves.size()));
        if (first + once.size() * many > 8) {
            throw new Fault(7, here().place());
        }
        at++;
        pass(")");
        for (int k = 1; k < many; k++) {
            once.forEach(m -> moves.add(new int[] {m[0], m[1], 0}));
        }
    }

    /** The number of the RESULT; -3 if this is no PLAY, -4 if a star is wrong. */
    int find(List<Rules.Row> plays) {
        int found = -3;
        List<int[]> order = new ArrayList<>(Rules.results(plays).keySet());
        for (Rules.Row play : plays) {
            boolean same = play.moves().size() == moves.size();
            boolean stars = true;
            for (int k = 0; same && k < moves.size(); k++) {
                int[] m = play.moves().get(k);
                same = m[0] == moves.get(k)[0] && m[1] == moves.get(k)[1];
                stars &= m[2] == moves.get(k)[2];
            }
            if (same) {
                found = -4;
                for (int i = 0; stars && i < order.size(); i++) {
                    found = Arrays.equals(order.get(i), play.behind().inOrder()) ? i : found;
                }
                return found;
            }
        }
        return found;
    }
}
