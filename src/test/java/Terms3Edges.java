/** The sentences of part 3 of "Terms", the match, each with a test of its own. */
final class Terms3Edges {
    private static final String START = "24:2,13:5,8:3,6:5;24:2,13:5,8:3,6:5;";

    private Terms3Edges() {
    }

    static void all() {
        holds("A MATCH is to 1 to 25 POINTS, or to 0: without end.", Terms3Edges::toSoManyPoints);
        holds("STATES: 0 none has begun; 1 the first dice are due; 2 dice are due, or a double; "
                + "3 a RESULT is to be chosen; 4 a double is to be answered; 5 the game is over; "
                + "6 the match is over.", Terms3Edges::whatEachStateTakes);
        holds("A GAME begins in the STARTING POSITION (each on its own POINTS 24: 2, 13: 5, 8: 3, 6: 5), "
                + "the CUBE at 1, nobody's, PLAYER 0's TURN; STATE 1.", Terms3Edges::aGameBegins);
        holds("First dice a, b: if they are alike, nothing but that they are counted;", Terms3Edges::alikeFirstDice);
        holds("else the TURN is PLAYER 0's if a is greater, otherwise 1's, with these dice: STATE 3.",
                Terms3Edges::unlikeFirstDice);
        holds("Dice in STATE 2: STATE 3.", Terms3Edges::laterDice);
        holds("Choosing a RESULT: it is the POSITION; STATE 2, or the game is over.", Terms3Edges::choosing);
        holds("A double, in STATE 2: the CUBE is nobody's or belongs to the one whose TURN it is,",
                Terms3Edges::whoMayDouble);
        holds("it is below 64,", Terms3Edges::belowSixtyFour);
        holds("and the game is not the CRAWFORD one: STATE 4.", Terms3Edges::noDoubleInTheCrawfordGame);
        holds("Taken: the CUBE is twice as much and belongs to the other one; STATE 2, the TURN as it was.",
                Terms3Edges::taken);
        holds("Passed: the game is over; the one who doubled wins the CUBE.", Terms3Edges::passed);
        endings();
    }

    private static void endings() {
        holds("The game is over when it is OVER: who has all OFF wins the CUBE;", Terms3Edges::onceTheCube);
        holds("twice, if the other has no MAN OFF;", Terms3Edges::twiceTheCube);
        holds("three times, if besides one of its MEN is on its own BAR or its own POINTS 19 to 24.",
                Terms3Edges::threeTimesTheCube);
        holds("STATE 5; 6 if the match is to n POINTS and the winner has n or more.", Terms3Edges::theMatchIsOver);
        holds("CRAWFORD is one game of a match to n (2 at least):", Terms3Edges::crawfordFromTwoOn);
        holds("the one behind that by which, for the first time in the match, a PLAYER came to just n - 1.",
                Terms3Edges::theCrawfordGame);
    }

    private static void holds(String sentence, Runnable test) {
        Sentences.holds("Terms 3", sentence, test);
    }

    private static void state(BearHouse x, String where, String want) {
        Check.due("the match " + where, Show.match(x), want);
    }

    private static void noDouble(BearHouse x, String where) {
        Check.refused(IllegalStateException.class, "offer() " + where, x, x::offer);
    }

    /** From STATE 2 so many doubles are taken, a turn behind each. */
    private static void takeDoubles(BearHouse x, int many) {
        for (int k = 0; k < many; k++) {
            x.offer();
            x.answer(true);
            Show.turn(x);
        }
    }

    /** Wins a game to this PLAYER by a pass, the CUBE having been doubled so often. */
    private static int winCube(BearHouse x, int player, int doubles) {
        Show.toDouble(x, (player + doubles) % 2);
        takeDoubles(x, doubles);
        x.offer();
        return x.answer(false);
    }

    private static void toSoManyPoints() {
        for (int points = 0; points <= 25; points++) {
            BearHouse x = new BearHouse();
            x.begin(points);
            Check.due("STATE of a match to " + points, x.match(0), 1);
            int state = winCube(x, 0, 0);
            Check.due("one point of " + points, state, points == 1 ? 6 : 5);
        }
        BearHouse x = new BearHouse();
        x.begin(0);
        for (int games = 1; games <= 3; games++) {
            Check.due("32 points more without end", winCube(x, 1, 5), 5);
            Check.due("SCORE", x.match(2), 32 * games);
            x.next();
            Check.due("the next game", x.match(0) * 10 + x.match(5), 10);
        }
        BearHouse y = new BearHouse();
        y.begin(25);
        Check.due("16 of 25", winCube(y, 0, 4), 5);
        y.next();
        Check.due("24 of 25", winCube(y, 0, 3), 5);
        y.next();
        Show.game(y, 0, 0, Games.ONE_OFF_6);
        state(y, "25 of 25", "6 25 0 1 -1 1 3 30 1 0 0 0");
    }

    private static void whatEachStateTakes() {
        for (int state = 0; state <= 6; state++) {
            String name = " in STATE " + state;
            BearHouse x = Show.inState(state);
            if (state == 1 || state == 2) {
                Check.due("roll(3, 1)" + name, x.roll(3, 1), 3);
            } else {
                Check.badState("roll(3, 1)" + name, () -> x.roll(3, 1));
            }
            BearHouse y = Show.inState(state);
            if (state == 2) {
                Check.due("offer()" + name, y.offer(), 2);
            } else {
                Check.badState("offer()" + name, y::offer);
            }
            BearHouse z = Show.inState(state);
            if (state == 4) {
                Check.due("answer(true)" + name, z.answer(true), 2);
            } else {
                Check.badState("answer(true)" + name, () -> z.answer(true));
            }
            BearHouse u = Show.inState(state);
            if (state == 0 || state == 3 || state == 6) {
                Check.due("plays(3, 1)" + name, Math.min(u.plays(3, 1), 1), 1);
            } else {
                Check.badState("plays(3, 1)" + name, () -> u.plays(3, 1));
            }
            BearHouse v = Show.inState(state);
            if (state == 5) {
                v.next();
                Check.due("next()" + name, v.match(0), 1);
            } else {
                Check.badState("next()" + name, () -> {
                    v.next();
                    return 0;
                });
            }
        }
    }

    private static void aGameBegins() {
        for (int state = 0; state <= 6; state++) {
            BearHouse x = Show.inState(state);
            x.begin(7);
            Check.due("begin(7) in STATE " + state, Show.board(x), START + 0);
            state(x, "begun in STATE " + state, "1 0 0 1 -1 0 1 0 0 -1 0 0");
        }
        BearHouse x = Show.at("25:15;1:15;1");
        x.begin(0);
        Check.due("begin(0)", Show.board(x), START + 0);
        // The CUBE at 4, PLAYER 1's TURN, MEN all over the board: the next game has nothing of it.
        Check.due("passed at 4", winCube(x, 1, 2), 5);
        state(x, "ahead of next()", "5 0 4 4 1 0 1 3 4 1 0 0");
        Check.due("the TURN", x.ask(0), 1);
        Check.due("its POSITION is there yet", Show.board(x).startsWith(START) ? 1 : 0, 0);
        x.next();
        Check.due("next()", Show.board(x), START + 0);
        state(x, "behind next()", "1 0 4 1 -1 0 2 3 4 1 0 0");
    }

    private static void alikeFirstDice() {
        BearHouse x = new BearHouse();
        x.begin(3);
        for (int die = 1; die <= 6; die++) {
            Check.due("roll alike", x.roll(die, die), 1);
            state(x, "behind alike ones", "1 0 0 1 -1 0 1 " + die + " 0 -1 0 0");
        }
        Check.due("the POSITION", Show.board(x), START + 0);
        Check.due("RESULTS", x.ask(6), 0);
        Check.badState("plays(6, 6)", () -> x.plays(6, 6));
        Check.badState("offer()", x::offer);
        Check.due("unlike ones", x.roll(1, 2), 3);
        state(x, "behind unlike ones", "3 0 0 1 -1 0 1 7 0 -1 2 1");
    }

    private static void unlikeFirstDice() {
        for (int a = 1; a <= 6; a++) {
            for (int b = 1; b <= 6; b++) {
                if (a != b) {
                    BearHouse x = new BearHouse();
                    x.begin(3);
                    Check.due("roll(" + a + ", " + b + ")", x.roll(a, b), 3);
                    Check.due("TURN of " + a + ", " + b, x.ask(0), a > b ? 0 : 1);
                    Check.due("the greater of " + a + ", " + b, x.match(10), Math.max(a, b));
                    Check.due("the lesser of " + a + ", " + b, x.match(11), Math.min(a, b));
                    Check.due("plays with them", Math.min(x.plays(b, a), 1), 1);
                }
            }
        }
        BearHouse x = Show.inState(5);
        x.next();
        Check.due("first dice of the next game", x.roll(2, 6), 3);
        Check.due("its TURN", x.ask(0), 1);
    }

    private static void laterDice() {
        for (int a = 1; a <= 6; a++) {
            for (int b = 1; b <= 6; b++) {
                BearHouse x = new BearHouse();
                x.begin(3);
                Show.toDouble(x, (a + b) % 2);
                Check.due("roll(" + a + ", " + b + ") in STATE 2", x.roll(a, b), 3);
                Check.due("the TURN stays", x.ask(0), (a + b) % 2);
                Check.due("dice", x.match(10) * 10 + x.match(11), Math.max(a, b) * 10 + Math.min(a, b));
                Check.due("rolls", x.match(7), 2);
            }
        }
    }

    private static void choosing() {
        BearHouse x = Show.inState(3);
        x.plays(3, 1);
        String want = Show.result(x, 4);
        Check.due("choose(4)", x.choose(4), 1);
        Check.due("the POSITION", Show.board(x), want + 1);
        state(x, "behind it", "2 0 0 1 -1 0 1 1 0 -1 0 0");
        // The empty row is chosen like any other.
        BearHouse y = new BearHouse();
        y.begin(3);
        String[] turns = Games.NONE_OFF_BAR.split(" ");
        Show.game(y, 0, 0, String.join(" ", java.util.Arrays.copyOf(turns, turns.length - 2)));
        y.roll(1, 1);
        Check.due("plays(1, 1) from the BAR, shut", y.plays(1, 1), 1);
        Check.due("no MOVE", y.way(0, 0), -1);
        Check.due("choose(0)", y.choose(0), 0);
        Check.due("STATE", y.match(0), 2);
        y.roll(6, 6);
        y.plays(6, 6);
        Check.due("choose(0), the last MEN borne off", y.choose(0), 1);
        Check.due("STATE", y.match(0), 6);
        Check.due("OVER", y.ask(3), 1);
    }

    private static void whoMayDouble() {
        for (int player = 0; player < 2; player++) {
            BearHouse x = new BearHouse();
            x.begin(0);
            Check.badState("offer() in STATE 1", x::offer);
            Show.toDouble(x, player);
            Check.due("whose TURN", x.ask(0), player);
            Check.due("offer() of nobody's CUBE by " + player, x.offer(), 2);
            Check.due("STATE", x.match(0), 4);
            Check.badState("offer() in STATE 4", x::offer);
            x.answer(true);
            Check.badState("offer() of the other's CUBE", x::offer);
            x.roll(2, 1);
            Check.badState("offer() in STATE 3", x::offer);
            x.plays(2, 1);
            x.choose(0);
            Check.due("whose TURN", x.ask(0), 1 - player);
            Check.due("offer() of the own CUBE by " + (1 - player), x.offer(), 4);
            x.answer(true);
            Check.badState("offer() of the other's CUBE again", x::offer);
            Show.turn(x);
            Show.turn(x);
            Check.due("whose TURN", x.ask(0), 1 - player);
            noDouble(x, "two turns on, of the other's CUBE");
        }
    }

    private static void belowSixtyFour() {
        BearHouse x = new BearHouse();
        x.begin(0);
        Show.toDouble(x, 0);
        for (int cube = 1; cube <= 32; cube *= 2) {
            Check.due("the CUBE", x.match(3), cube);
            Check.due("offer() at " + cube, x.offer(), 2 * cube);
            Check.due("answer(true)", x.answer(true), 2);
            Show.turn(x);
        }
        Check.due("the CUBE", x.match(3), 64);
        Check.due("it is the one's whose TURN it is", x.match(4), x.ask(0));
        noDouble(x, "at 64");
        Check.due("dice are due", x.roll(1, 2), 3);
    }

    private static void noDoubleInTheCrawfordGame() {
        for (int player = 0; player < 2; player++) {
            BearHouse x = new BearHouse();
            x.begin(2);
            winCube(x, 0, 0);
            x.next();
            Check.due("the CRAWFORD game", x.match(5), 1);
            Show.toDouble(x, player);
            noDouble(x, "in the CRAWFORD game, by " + player);
            Show.turn(x);
            Check.badState("offer() there, by " + (1 - player), x::offer);
            BearHouse y = new BearHouse();
            y.begin(3);
            winCube(y, 0, 0);
            y.next();
            Show.toDouble(y, player);
            Check.due("offer() in another game", y.offer(), 2);
            Check.due("STATE", y.match(0), 4);
        }
    }

    private static void taken() {
        for (int player = 0; player < 2; player++) {
            BearHouse x = new BearHouse();
            x.begin(3);
            Show.toDouble(x, player);
            String board = Show.board(x);
            x.offer();
            state(x, "offered", "4 0 0 1 -1 0 1 1 0 -1 0 0");
            Check.due("the TURN while it is offered", x.ask(0), player);
            Check.due("answer(true)", x.answer(true), 2);
            state(x, "taken", "2 0 0 2 " + (1 - player) + " 0 1 1 0 -1 0 0");
            Check.due("the TURN and the POSITION as they were", Show.board(x), board);
            Show.turn(x);
            x.offer();
            x.answer(true);
            state(x, "taken again", "2 0 0 4 " + player + " 0 1 2 0 -1 0 0");
            Check.due("the TURN as it was", x.ask(0), 1 - player);
        }
    }

    private static void passed() {
        for (int player = 0; player < 2; player++) {
            BearHouse x = new BearHouse();
            x.begin(7);
            Show.toDouble(x, player);
            x.offer();
            String board = Show.board(x);
            Check.due("answer(false)", x.answer(false), 5);
            state(x, "passed", "5 " + (1 - player) + " " + player + " 1 -1 0 1 1 1 " + player + " 0 0");
            Check.due("the POSITION stays", Show.board(x), board);
            x.next();
            // A passed double to 4 is worth the CUBE as it was: 2.
            Check.due("passed at 2", winCube(x, player, 1), 5);
            Check.due("its worth", x.match(8), 2);
            Check.due("who won it", x.match(9), player);
            Check.due("the CUBE", x.match(3), 2);
            Check.due("SCORE", x.match(1 + player), 3);
        }
    }

    /** A whole game to 7 with some doubles; the loser's MEN are looked at, so that it is the case that it is named. */
    private static void ending(String turns, int doubles, int off, int highest, int times) {
        for (int winner = 0; winner < 2; winner++) {
            BearHouse x = new BearHouse();
            x.begin(7);
            Show.game(x, winner, doubles, turns);
            int loser = 1 - winner;
            int top = 25;
            while (top > 0 && x.men(loser, top) == 0) {
                top--;
            }
            Check.due("the winner has all OFF", x.men(winner, 0), 15);
            Check.due("MEN that the loser has OFF", x.men(loser, 0), off);
            Check.due("its highest one", top, highest);
            int worth = times << doubles;
            String scores = winner == 0 ? worth + " 0 " : "0 " + worth + " ";
            int owner = doubles == 0 ? -1 : doubles % 2 == 1 ? winner : loser;
            state(x, "at its end", (worth >= 7 ? "6 " : "5 ") + scores + (1 << doubles) + " " + owner + " 0 1 "
                    + turns.split(" ").length + " " + worth + " " + winner + " 0 0");
            Check.due("OVER", x.ask(3), 1);
            Check.due("the TURN behind the last PLAY", x.ask(0), loser);
        }
    }

    private static void onceTheCube() {
        ending(Games.ONE_OFF_6, 0, 1, 6, 1);
        ending(Games.ONE_OFF_6, 1, 1, 6, 1);
        ending(Games.ONE_OFF_6, 2, 1, 6, 1);
        // One MAN OFF is enough, wherever the others are.
        ending(Games.ONE_OFF_19, 0, 1, 19, 1);
        ending(Games.ONE_OFF_23, 0, 1, 23, 1);
        ending(Games.ONE_OFF_BAR, 0, 1, 25, 1);
        ending(Games.ONE_OFF_BAR, 3, 1, 25, 1);
    }

    private static void twiceTheCube() {
        ending(Games.NONE_OFF_18, 0, 0, 18, 2);
        ending(Games.NONE_OFF_18, 1, 0, 18, 2);
        ending(Games.NONE_OFF_18, 2, 0, 18, 2);
        // One MAN OFF, and it is once.
        ending(Games.ONE_OFF_6, 0, 1, 6, 1);
    }

    private static void threeTimesTheCube() {
        ending(Games.NONE_OFF_19, 0, 0, 19, 3);
        ending(Games.NONE_OFF_24, 0, 0, 24, 3);
        ending(Games.NONE_OFF_BAR, 0, 0, 25, 3);
        ending(Games.NONE_OFF_19, 1, 0, 19, 3);
        ending(Games.NONE_OFF_BAR, 2, 0, 25, 3);
        // None there, and it is twice; one there, but one OFF besides, and it is once.
        ending(Games.NONE_OFF_18, 0, 0, 18, 2);
        ending(Games.ONE_OFF_19, 0, 1, 19, 1);
        ending(Games.ONE_OFF_BAR, 0, 1, 25, 1);
    }

    private static void theMatchIsOver() {
        for (int points = 1; points <= 5; points++) {
            BearHouse x = new BearHouse();
            x.begin(points);
            Check.due("2 of " + points, winCube(x, 1, 1), points <= 2 ? 6 : 5);
            BearHouse y = new BearHouse();
            y.begin(points);
            Show.game(y, 0, 0, Games.NONE_OFF_24);
            Check.due("3 of " + points, y.match(0), points <= 3 ? 6 : 5);
            Check.due("SCORE", y.match(1), 3);
        }
        // The winner's own SCORE counts, not both together.
        BearHouse x = new BearHouse();
        x.begin(4);
        Check.due("2 : 0 to 4", winCube(x, 0, 1), 5);
        x.next();
        Check.due("2 : 2 to 4", winCube(x, 1, 1), 5);
        x.next();
        Check.due("6 : 2 to 4", winCube(x, 0, 2), 6);
        state(x, "to 4", "6 6 2 4 0 0 3 7 4 0 0 0");
        BearHouse y = new BearHouse();
        y.begin(0);
        Show.game(y, 0, 3, Games.NONE_OFF_BAR);
        Check.due("24 in a match to 0", y.match(0) * 100 + y.match(1), 524);
    }

    private static void crawfordFromTwoOn() {
        for (int points = 0; points <= 5; points++) {
            BearHouse x = new BearHouse();
            x.begin(points);
            Check.due("the first game of a match to " + points, x.match(5), 0);
            if (winCube(x, 0, 0) == 5) {
                Check.due("the game that came to 1", x.match(5), 0);
                x.next();
                Check.due("the game behind 1 : 0 to " + points, x.match(5), points == 2 ? 1 : 0);
            } else {
                Check.due("one point is all", points, 1);
                Check.due("to 1 there is none", x.match(5), 0);
            }
        }
        BearHouse x = new BearHouse();
        x.begin(25);
        winCube(x, 1, 4);
        x.next();
        Check.due("16 of 25", x.match(5), 0);
        winCube(x, 1, 3);
        x.next();
        Check.due("24 of 25", x.match(5), 1);
    }

    private static void theCrawfordGame() {
        BearHouse x = new BearHouse();
        x.begin(3);
        Check.due("winCube", winCube(x, 0, 1), 5);
        Check.due("the game by which it came to 2", x.match(5), 0);
        x.next();
        Check.due("the one behind", x.match(5), 1);
        Show.game(x, 1, 0, Games.ONE_OFF_6);
        Check.due("over, it is the CRAWFORD one yet", x.match(5), 1);
        state(x, "2 : 1", "5 2 1 1 -1 1 2 " + (2 + 21) + " 1 1 0 0");
        x.next();
        Check.due("one game alone", x.match(5), 0);
        Check.due("a double again", winCube(x, 1, 0), 5);
        Check.due("2 : 2", x.match(1) * 10 + x.match(2), 22);
        x.next();
        // The other one has come to n - 1 now: that is not the first time.
        Check.due("no second one", x.match(5), 0);
        Show.toDouble(x, 0);
        Check.due("offer()", x.offer(), 2);
        // The other one comes to n - 1 in the CRAWFORD game itself.
        BearHouse y = new BearHouse();
        y.begin(3);
        winCube(y, 1, 1);
        y.next();
        Show.game(y, 0, 0, Games.NONE_OFF_18);
        Check.due("2 : 2", y.match(0) * 100 + y.match(1) * 10 + y.match(2), 522);
        y.next();
        Check.due("no second one", y.match(5), 0);
        // Each match has its own.
        y.begin(2);
        Check.due("a new match", y.match(5), 0);
        winCube(y, 0, 0);
        y.next();
        Check.due("its CRAWFORD game", y.match(5), 1);
        y.begin(2);
        Check.due("begun in the CRAWFORD game", y.match(5), 0);
        winCube(y, 1, 0);
        y.begin(3);
        Check.due("begun ahead of the CRAWFORD game", y.match(5), 0);
    }
}
