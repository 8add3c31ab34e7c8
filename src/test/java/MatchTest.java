import java.util.Random;

/** Promises 13 to 18. */
public final class MatchTest {
    public static void main(String[] args) {
        beginning();
        dice();
        cube();
        crawford();
        noCrawford();
        endings();
        afterTheMatch();
        Check.finish("MatchTest");
    }

    private static void told(BearHouse x, String where, int... want) {
        for (int what = 0; what < want.length; what++) {
            Check.due("match(" + what + ") " + where, x.match(what), want[what]);
        }
    }

    private static void atTheStart(BearHouse x, String where) {
        Check.due("ask(0) " + where, x.ask(0), 0);
        for (int player = 0; player < 2; player++) {
            Check.due("24 " + where, x.men(player, 24), 2);
            Check.due("13 " + where, x.men(player, 13), 5);
            Check.due("8 " + where, x.men(player, 8), 3);
            Check.due("6 " + where, x.men(player, 6), 5);
        }
        Check.due("ask(6) " + where, x.ask(6), 0);
    }

    private static void beginning() {
        BearHouse x = new BearHouse();
        for (int points : new int[] {-1, 26, Integer.MIN_VALUE, Integer.MAX_VALUE}) {
            Check.badArgument("begin(" + points + ")", () -> {
                x.begin(points);
                return 0;
            });
        }
        Check.due("match(0)", x.match(0), 0);
        for (int what : new int[] {-1, 12, Integer.MIN_VALUE, Integer.MAX_VALUE}) {
            Check.badArgument("match(" + what + ")", () -> x.match(what));
        }
        Check.position(x, "6:1;;1");
        x.plays(1, 2);
        x.begin(25);
        told(x, "behind begin(25)", 1, 0, 0, 1, -1, 0, 1, 0, 0, -1, 0, 0);
        atTheStart(x, "behind begin(25)");
        x.roll(6, 5);
        x.plays(6, 5);
        x.begin(0);
        told(x, "behind begin(0)", 1, 0, 0, 1, -1, 0, 1, 0, 0, -1, 0, 0);
        atTheStart(x, "behind begin(0)");
        Check.feed(x, "6:1;;0");
        Check.badState("position(6)", () -> x.position(6));
        Check.badArgument("position(21)", () -> x.position(21));
        Check.due("ask(4)", x.ask(4), 20);
    }

    private static void dice() {
        BearHouse x = new BearHouse();
        x.begin(5);
        for (int die : new int[] {0, 7, Integer.MIN_VALUE, Integer.MAX_VALUE}) {
            Check.badArgument("roll(" + die + ", 1)", () -> x.roll(die, 1));
            Check.badArgument("roll(1, " + die + ")", () -> x.roll(1, die));
        }
        Check.badState("offer() in STATE 1", x::offer);
        Check.badState("plays(3, 1) in STATE 1", () -> x.plays(3, 1));
        Check.badArgument("plays(0, 1) in STATE 1", () -> x.plays(0, 1));
        Check.due("roll(6, 6)", x.roll(6, 6), 1);
        told(x, "behind alike dice", 1, 0, 0, 1, -1, 0, 1, 1, 0, -1, 0, 0);
        Check.due("roll(4, 2)", x.roll(4, 2), 3);
        told(x, "behind first dice", 3, 0, 0, 1, -1, 0, 1, 2, 0, -1, 4, 2);
        Check.due("ask(0)", x.ask(0), 0);
        Check.badState("roll(1, 2) in STATE 3", () -> x.roll(1, 2));
        Check.badArgument("roll(1, 0) in STATE 3", () -> x.roll(1, 0));
        Check.badState("offer() in STATE 3", x::offer);
        Check.noElement("choose(0) ahead of plays()", () -> x.choose(0));
        Check.badState("plays(4, 4)", () -> x.plays(4, 4));
        Check.badState("plays(2, 2)", () -> x.plays(2, 2));
        Check.badState("plays(2, 1)", () -> x.plays(2, 1));
        Check.feed(x, "8/4 6/4");
        Check.badState("say(7, 4, 3)", () -> x.say(7, 4, 3));
        Check.due("say(7, 2, 4)", x.say(7, 2, 4) >= 0 ? 1 : 0, 1);
        Check.due("plays(2, 4)", x.plays(2, 4), x.plays(4, 2));
        Check.due("choose(0)", x.choose(0), 1);
        told(x, "behind choose", 2, 0, 0, 1, -1, 0, 1, 2, 0, -1, 0, 0);
        Check.badState("plays(4, 2) in STATE 2", () -> x.plays(4, 2));
        Check.due("roll(5, 5)", x.roll(5, 5), 3);
        told(x, "behind dice", 3, 0, 0, 1, -1, 0, 1, 3, 0, -1, 5, 5);
        Check.due("ask(0)", x.ask(0), 1);
        Check.due("plays(5, 5)", x.plays(5, 5) > 0 ? 1 : 0, 1);
        x.begin(5);
        Check.due("roll(2, 4)", x.roll(2, 4), 3);
        Check.due("ask(0)", x.ask(0), 1);
        told(x, "behind first dice", 3, 0, 0, 1, -1, 0, 1, 1, 0, -1, 4, 2);
    }

    /** From STATE 1 to 2, the TURN being this PLAYER's. */
    private static void openFor(BearHouse x, int player) {
        x.roll(player == 0 ? 1 : 2, player == 0 ? 2 : 1);
        x.plays(2, 1);
        x.choose(0);
        Check.due("turn", x.ask(0), player);
    }

    private static void turn(BearHouse x) {
        x.roll(2, 1);
        x.plays(2, 1);
        x.choose(x.ask(6) - 1);
    }

    private static void cube() {
        BearHouse x = new BearHouse();
        x.begin(0);
        Check.badState("answer(true) in STATE 1", () -> x.answer(true));
        openFor(x, 0);
        Check.badState("answer(false) in STATE 2", () -> x.answer(false));
        int worth = 1;
        for (int k = 0; k < 6; k++) {
            int doubler = k % 2;
            Check.due("turn", x.ask(0), doubler);
            Check.due("offer()", x.offer(), 2 * worth);
            told(x, "behind offer", 4, 0, 0, worth, k == 0 ? -1 : doubler);
            Check.badState("roll(1, 1) in STATE 4", () -> x.roll(1, 1));
            Check.badState("offer() in STATE 4", x::offer);
            Check.badState("plays(1, 1) in STATE 4", () -> x.plays(1, 1));
            Check.due("answer(true)", x.answer(true), 2);
            worth *= 2;
            told(x, "behind answer", 2, 0, 0, worth, 1 - doubler);
            Check.due("the turn stays", x.ask(0), doubler);
            Check.badState("offer() of the other's CUBE", x::offer);
            turn(x);
        }
        Check.due("cube", x.match(3), 64);
        Check.due("owner", x.match(4), x.ask(0));
        Check.badState("offer() above 64", x::offer);
        Check.badState("next() in STATE 2", () -> {
            x.next();
            return 0;
        });
        x.begin(7);
        openFor(x, 1);
        x.offer();
        x.answer(true);
        turn(x);
        Check.due("offer()", x.offer(), 4);
        Check.due("answer(false)", x.answer(false), 5);
        told(x, "behind a pass", 5, 2, 0, 2, 0, 0, 1, 2, 2, 0, 0, 0);
        Check.badState("roll(1, 2) in STATE 5", () -> x.roll(1, 2));
        Check.badState("offer() in STATE 5", x::offer);
        Check.badState("answer(true) in STATE 5", () -> x.answer(true));
        Check.badState("plays(1, 2) in STATE 5", () -> x.plays(1, 2));
        Check.feed(x, "6:1;;0");
        Check.badState("position(6) in STATE 5", () -> x.position(6));
        x.next();
        told(x, "behind next()", 1, 2, 0, 1, -1, 0, 2, 2, 2, 0, 0, 0);
        atTheStart(x, "behind next()");
        openFor(x, 1);
        x.offer();
        Check.due("answer(false)", x.answer(false), 5);
        told(x, "behind a pass", 5, 2, 1, 1, -1, 0, 2, 3, 1, 1, 0, 0);
    }

    private static int winByPass(BearHouse x, int player) {
        openFor(x, player);
        x.offer();
        return x.answer(false);
    }

    private static void crawford() {
        BearHouse x = new BearHouse();
        x.begin(2);
        Check.due("first game", x.match(5), 0);
        Check.due("winByPass", winByPass(x, 1), 5);
        Check.due("still the first game", x.match(5), 0);
        x.next();
        Check.due("second game", x.match(5), 1);
        openFor(x, 0);
        Check.badState("offer() in the CRAWFORD game", x::offer);
        turn(x);
        Check.badState("offer() in the CRAWFORD game", x::offer);
        x.begin(2);
        Check.due("a new match", x.match(5), 0);
        openFor(x, 0);
        Check.due("offer()", x.offer(), 2);
        x.answer(true);
        turn(x);
        x.offer();
        Check.due("two at once end it", x.answer(false), 6);
        Check.due("score", x.match(2), 2);
        Check.badState("next() in STATE 6", () -> {
            x.next();
            return 0;
        });
        onceAMatch();
        oncePerMatch();
    }

    /** What a match has seen of it is gone with the next match. */
    private static void oncePerMatch() {
        BearHouse x = new BearHouse();
        x.begin(2);
        winByPass(x, 0);
        x.begin(2);
        Check.due("the first game of a match", x.match(5), 0);
        winByPass(x, 1);
        x.next();
        Check.due("the second game", x.match(5), 1);
        x.begin(2);
        Check.due("the first game again", x.match(5), 0);
        winByPass(x, 0);
        x.next();
        Check.due("the second game again", x.match(5), 1);
        openFor(x, 0);
        Check.badState("offer() there", x::offer);
        x.begin(3);
        Check.due("to 3", x.match(5), 0);
        openFor(x, 0);
        Check.due("offer() there", x.offer(), 2);
    }

    /** To 3: 0 comes to 2, the CRAWFORD game goes to 1, so do two more: it is not the CRAWFORD one again. */
    private static void onceAMatch() {
        BearHouse x = new BearHouse();
        x.begin(3);
        winByPass(x, 0);
        Check.due("1 : 0", x.match(5), 0);
        x.next();
        Check.due("game 2", x.match(5), 0);
        winByPass(x, 0);
        x.next();
        Check.due("game 3", x.match(5), 1);
        playToTheEnd(x, 1, false);
        Check.due("state", x.match(0), 5);
        Check.due("behind game 3", x.match(5), 1);
        Check.due("worth", x.match(8), 1);
        Check.due("winner", x.match(9), 1);
        x.next();
        Check.due("game 4", x.match(5), 0);
        Check.due("winByPass", winByPass(x, 1), 5);
        Check.due("2 : 2", x.match(1) * 10 + x.match(2), 22);
        x.next();
        Check.due("game 5", x.match(5), 0);
        openFor(x, 0);
        Check.due("offer() behind the CRAWFORD game", x.offer(), 2);
        Check.due("answer(false)", x.answer(false), 6);
        told(x, "at the end", 6, 3, 2, 1, -1, 0, 5);
    }

    private static void noCrawford() {
        BearHouse x = new BearHouse();
        x.begin(1);
        Check.due("to 1", x.match(5), 0);
        openFor(x, 0);
        Check.due("offer() to 1", x.offer(), 2);
        Check.due("answer(false) to 1", x.answer(false), 6);
        x.begin(0);
        for (int k = 0; k < 6; k++) {
            Check.due("game to 0", x.match(5), 0);
            Check.due("winByPass", winByPass(x, 0), 5);
            Check.due("score", x.match(1), k + 1);
            x.next();
        }
        x.begin(5);
        for (int k = 0; k < 2; k++) {
            openFor(x, 0);
            x.offer();
            x.answer(true);
            turn(x);
            x.offer();
            Check.due("answer(false)", x.answer(false), 5);
            x.next();
        }
        Check.due("4 of 5 at once", x.match(5), 1);
    }

    /** The winner runs home; the loser runs too, or stays back, with the least dice. */
    private static void playToTheEnd(BearHouse x, int winner, boolean loserStays) {
        x.roll(winner == 0 ? 6 : 5, winner == 0 ? 5 : 6);
        x.plays(6, 5);
        x.choose(x.ask(6) - 1);
        for (int k = 0; k < 150 && x.match(0) == 2; k++) {
            boolean wins = x.ask(0) == winner;
            int a = wins ? 4 + k / 2 % 3 : loserStays ? 1 : 6;
            int b = wins ? 4 + (k / 2 + 1) % 3 : loserStays ? 1 : 5;
            x.roll(a, b);
            x.plays(a, b);
            x.choose(wins || !loserStays ? x.ask(6) - 1 : 0);
        }
    }

    /** How often a game ended with no MAN of the loser OFF and its highest one on this POINT. */
    private static final int[] HIGHEST = new int[26];

    private static void endings() {
        int[] seen = new int[4];
        Random chance = new Random(7);
        for (int k = 0; k < 120 || k < 3000 && (HIGHEST[18] == 0 || HIGHEST[19] == 0 || HIGHEST[25] == 0); k++) {
            seen[ending(k % 2, k / 2 % 3, chance)]++;
        }
        for (int point : new int[] {18, 19, 24, 25}) {
            Check.due("endings with " + point + " the highest were seen", HIGHEST[point] > 0 ? 1 : 0, 1);
        }
        for (int times = 1; times <= 3; times++) {
            Check.due("endings worth " + times + " were seen", seen[times] > 4 ? 1 : 0, 1);
        }
    }

    /** One game with a CUBE at 2; what is due of it is told here again. 0 if it took too long to end. */
    private static int ending(int winner, int stay, Random chance) {
        BearHouse x = new BearHouse();
        x.begin(6);
        openFor(x, winner);
        x.offer();
        x.answer(true);
        int rolls = 1;
        for (int k = 0; k < 70 && x.match(0) == 2; k++) {
            boolean wins = x.ask(0) == winner;
            int a = wins ? 4 + chance.nextInt(3) : 1 + chance.nextInt(stay == 0 ? 6 : 2);
            int b = wins ? 1 + chance.nextInt(6) : 1 + chance.nextInt(stay == 0 ? 6 : 2);
            x.roll(a, b);
            rolls++;
            x.plays(a, b);
            x.choose(wins || stay < 2 ? x.ask(6) - 1 : 0);
        }
        if (x.match(0) == 2) {
            return 0;
        }
        int who = x.men(0, 0) == 15 ? 0 : 1;
        int times = x.men(1 - who, 0) > 0 ? 1 : 2;
        for (int p = 19; p <= 25; p++) {
            times = x.men(1 - who, p) > 0 && times >= 2 ? 3 : times;
        }
        for (int p = 25; p >= 1 && times >= 2; p--) {
            if (x.men(1 - who, p) > 0) {
                HIGHEST[p]++;
                break;
            }
        }
        Check.due("all OFF", x.men(who, 0), 15);
        Check.due("OVER", x.ask(3), 1);
        Check.due("the other's TURN", x.ask(0), 1 - who);
        int score = 2 * times;
        told(x, "at the end", score >= 6 ? 6 : 5, who == 0 ? score : 0, who == 1 ? score : 0, 2, 1 - winner, 0, 1,
                rolls, score, who, 0, 0);
        return times;
    }

    private static void afterTheMatch() {
        BearHouse x = new BearHouse();
        x.begin(1);
        Check.due("winByPass", winByPass(x, 1), 6);
        told(x, "behind the match", 6, 0, 1, 1, -1, 0, 1, 1, 1, 1, 0, 0);
        Check.badState("roll(1, 2) in STATE 6", () -> x.roll(1, 2));
        Check.badState("offer() in STATE 6", x::offer);
        Check.badState("answer(true) in STATE 6", () -> x.answer(true));
        Check.due("plays in STATE 6", x.plays(6, 1) > 0 ? 1 : 0, 1);
        x.choose(0);
        Check.due("STATE behind choose()", x.match(0), 6);
        Check.due("position in STATE 6", Check.position(x, "1:1;1:1;0"), 0);
        x.plays(6, 1);
        Check.due("choose", x.choose(0), 1);
        Check.due("OVER", x.ask(3), 1);
        told(x, "outside of the match", 6, 0, 1, 1, -1, 0, 1, 1, 1, 1, 0, 0);
        x.begin(3);
        told(x, "in a new match", 1, 0, 0, 1, -1, 0, 1, 0, 0, -1, 0, 0);
    }
}
