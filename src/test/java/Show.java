import java.util.ArrayList;
import java.util.List;

/** What can be seen of an object, told as texts, and objects brought to where a test wants them. */
final class Show {
    /** Numbers far from all that the document names, where a sum or a shift would wrap around. */
    static final int[] FAR = {Integer.MIN_VALUE, Integer.MIN_VALUE + 1, -65536, -256, -2, 256, 65536, 1 << 24,
        1 << 30, Integer.MAX_VALUE - 1, Integer.MAX_VALUE};

    private Show() {
    }

    static BearHouse at(String position) {
        BearHouse x = new BearHouse();
        Check.due("position " + position, Check.position(x, position), 0);
        return x;
    }

    /** The POSITION as a text that position() reads, the higher POINTS first. */
    static String board(BearHouse x) {
        StringBuilder text = new StringBuilder();
        for (int player = 0; player < 2; player++) {
            String comma = "";
            for (int point = 25; point >= 1; point--) {
                comma = stack(text, comma, point, x.men(player, point));
            }
            text.append(';');
        }
        return text.append(x.ask(0)).toString();
    }

    /** The MEN of RESULT i likewise. */
    static String result(BearHouse x, int i) {
        StringBuilder text = new StringBuilder();
        for (int player = 0; player < 2; player++) {
            String comma = "";
            for (int point = 25; point >= 1; point--) {
                comma = stack(text, comma, point, x.result(i, player, point));
            }
            text.append(';');
        }
        return text.toString();
    }

    private static String stack(StringBuilder text, String comma, int point, int men) {
        if (men == 0) {
            return comma;
        }
        text.append(comma).append(point).append(':').append(men);
        return ",";
    }

    /** THE WAY of RESULT i: "bar/24 6/off"; "-" is the empty row. */
    static String way(BearHouse x, int i) {
        List<String> moves = new ArrayList<>();
        for (int k = 0; k < 5 && x.way(i, k) != -1; k++) {
            int from = x.way(i, k) / 32;
            int to = x.way(i, k) % 32;
            moves.add((from == 25 ? "bar" : "" + from) + "/" + (to == 0 ? "off" : "" + to));
        }
        return moves.isEmpty() ? "-" : String.join(" ", moves);
    }

    /** THE WAYS of all RESULTS of a POSITION, in order. */
    static String ways(String position, int a, int b) {
        BearHouse x = at(position);
        int count = x.plays(a, b);
        List<String> ways = new ArrayList<>();
        for (int i = 0; i < count && i < 30; i++) {
            ways.add(way(x, i));
        }
        return String.join(", ", ways);
    }

    /** The MEN of all RESULTS of a POSITION, in order. */
    static List<String> results(String position, int a, int b) {
        List<String> all = new ArrayList<>();
        int count = at(position).plays(a, b);
        for (int i = 0; i < count; i++) {
            BearHouse x = at(position);
            x.plays(a, b);
            all.add(result(x, i));
        }
        return all;
    }

    /** What say() answers of MOVES in a POSITION. */
    static int said(String position, String moves, int a, int b) {
        return Check.say(at(position), moves, a, b);
    }

    static String match(BearHouse x) {
        StringBuilder text = new StringBuilder();
        for (int what = 0; what < 12; what++) {
            text.append(what == 0 ? "" : " ").append(x.match(what));
        }
        return text.toString();
    }

    /** All that can be seen, but for RESULTS behind the first one: some two hundred calls at most. */
    static String all(BearHouse x) {
        StringBuilder text = new StringBuilder(board(x));
        text.append(" off ").append(x.men(0, 0)).append(' ').append(x.men(1, 0));
        text.append(" asked");
        for (int what = 0; what < 8; what++) {
            text.append(' ').append(x.ask(what));
        }
        text.append(" match ").append(match(x)).append(" fault ").append(x.fault());
        text.append(" page ").append(Check.page(x));
        if (x.ask(6) > 0) {
            text.append(" first result ").append(result(x, 0)).append(way(x, 0));
        }
        return text.toString();
    }

    /** A new object in this STATE, PLAYER 0's TURN where there is one; dice 3, 1 in STATE 3. */
    static BearHouse inState(int state) {
        BearHouse x = new BearHouse();
        if (state == 0) {
            return x;
        }
        x.begin(state == 6 ? 1 : 3);
        if (state == 3) {
            x.roll(3, 1);
        } else if (state != 1) {
            toDouble(x, 0);
        }
        if (state >= 4) {
            x.offer();
        }
        if (state >= 5) {
            x.answer(false);
        }
        Check.due("STATE", x.match(0), state);
        return x;
    }

    /** From STATE 1 to 2, the TURN being this PLAYER's. */
    static void toDouble(BearHouse x, int player) {
        x.roll(player == 0 ? 1 : 2, player == 0 ? 2 : 1);
        x.plays(2, 1);
        x.choose(0);
    }

    /** One more turn with dice 2, 1. */
    static void turn(BearHouse x) {
        x.roll(2, 1);
        x.plays(2, 1);
        x.choose(x.ask(6) - 1);
    }

    /** This PLAYER doubles and the other one passes: the STATE then. */
    static int winByPass(BearHouse x, int player) {
        toDouble(x, player);
        x.offer();
        return x.answer(false);
    }

    /**
     * Plays a game from STATE 1 on, told as dice and the number of the RESULT for each turn: "65:2 44:50".
     * This PLAYER begins. Ahead of the first turns behind that a double is taken, so often.
     */
    static void game(BearHouse x, int player, int doubles, String turns) {
        int done = 0;
        for (String turn : turns.split(" ")) {
            int a = turn.charAt(0) - '0';
            int b = turn.charAt(1) - '0';
            if (done >= 1 && done <= doubles) {
                x.offer();
                x.answer(true);
            }
            x.roll(done == 0 && player == 1 ? b : a, done == 0 && player == 1 ? a : b);
            x.plays(a, b);
            x.choose(Integer.parseInt(turn.substring(3)));
            done++;
        }
    }
}
