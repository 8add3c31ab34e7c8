import java.util.Arrays;
import java.util.List;

/** The sentences of part 1 of "Terms", the board, each with a test of its own. */
final class Terms1Edges {
    private Terms1Edges() {
    }

    static void all() {
        holds("THE BOARD. Two PLAYERS, 0 and 1, have 15 MEN each.", Terms1Edges::fifteenMenEach);
        holds("A PLAYER's own POINTS are 1 to 24; 25 is the BAR, 0 is OFF.", Terms1Edges::pointsBarAndOff);
        holds("Own POINT p (1 to 24) is the other PLAYER's POINT 25 - p; on it stand MEN of one PLAYER alone.",
                Terms1Edges::onePlayerAlone);
        holds("A POSITION tells how many MEN each PLAYER has on each of 0 to 25, and whose TURN it is.",
                Terms1Edges::whatAPositionTells);
        holds("It is OVER if a PLAYER has all OFF.", Terms1Edges::over);
        holds("A MOVE by a die d (1 to 6) takes a MAN of the one whose TURN it is from POINT p (1 to 25) to p - d;",
                Terms1Edges::everyPointByEveryDie);
        holds("from the BAR, if one is there.", Terms1Edges::fromTheBar);
        holds("p - d above 0: the other PLAYER has at most one MAN there;", Terms1Edges::atMostOneManThere);
        holds("that one is HIT: it goes to the other's BAR.", Terms1Edges::hitGoesToTheBar);
        holds("p - d 0 or less: to OFF; only if all own MEN are on 0 to 6,", Terms1Edges::allAtHome);
        holds("and p is d, or p is less than d and no own MAN is on a POINT above p.", Terms1Edges::noneAbove);
        holds("A PLAY with dice a and b: a row of MOVES, each in the POSITION behind the ones ahead:",
                Terms1Edges::behindTheOnesAhead);
        holds("unlike dice: at most one by each, in whatever order;", Terms1Edges::unlikeDice);
        holds("alike: at most four by that die.", Terms1Edges::alikeDice);
        holds("No such row has more MOVES;", Terms1Edges::noRowHasMore);
        holds("and if it has one alone, and a row of one MOVE by the greater of unlike dice is there, "
                + "it is by that one.", Terms1Edges::byTheGreater);
        holds("(Without any MOVE the empty row is the only PLAY;", Terms1Edges::theEmptyRow);
        holds("so it is when the POSITION is OVER.)", Terms1Edges::theEmptyRowWhenOver);
        holds("RESULTS: the POSITIONS behind the PLAYS, the other PLAYER's TURN, each once:",
                Terms1Edges::eachOnce);
        holds("numbered from 0 on by order: of two the first is the one that has more MEN of the one who moved "
                + "on 25; if as many, on 24; and so on down to 0; then more of the other's on 25, 24, and so on.",
                Terms1Edges::theOrder);
        holds("THE WAY of a RESULT: of the PLAYS that come to it the one whose MOVES, told as 32 * from + to "
                + "(OFF is 0), are greater, looked at from the first one.", Terms1Edges::theWay);
    }

    private static void holds(String sentence, Runnable test) {
        Sentences.holds("Terms 1", sentence, test);
    }

    private static void ways(String position, int a, int b, String want) {
        Check.due(position + " with " + a + ", " + b, Show.ways(position, a, b), want);
        Check.due(position + " with " + b + ", " + a, Show.ways(position, b, a), want);
    }

    private static void play(String position, String moves, int a, int b) {
        int number = Show.said(position, moves, a, b);
        Check.due(moves + " in " + position + " with " + a + ", " + b, Math.min(number, 0), 0);
    }

    private static void noPlay(String position, String moves, int a, int b) {
        Check.due(moves + " in " + position + " with " + a + ", " + b, Show.said(position, moves, a, b), -4);
    }

    private static void behind(String position, int a, int b, String... want) {
        Check.due("RESULTS of " + position + " with " + a + ", " + b,
                Show.results(position, a, b).toString(), Arrays.toString(want));
    }

    private static void sums(BearHouse x, String where) {
        for (int player = 0; player < 2; player++) {
            int sum = 0;
            for (int point = 0; point <= 25; point++) {
                sum += x.men(player, point);
            }
            Check.due("MEN of " + player + " " + where, sum, 15);
        }
    }

    private static void fifteenMenEach() {
        sums(new BearHouse(), "at first");
        sums(Show.at("1:1;;0"), "with one on the board");
        sums(Show.at("25:15;1:15;1"), "with all on the board");
        BearHouse x = Show.at("24:1,6:2;4:1,2:1;0");
        x.choose(Check.say(x, "24/23*/21*", 2, 1));
        sums(x, "behind two hits");
        Check.due("the other's BAR", x.men(1, 25), 2);
        BearHouse y = Show.at("6:4;1:1;0");
        y.plays(6, 6);
        y.choose(0);
        sums(y, "behind four borne off");
        Check.due("OFF", y.men(0, 0), 15);
    }

    private static void pointsBarAndOff() {
        BearHouse x = Show.at("25:1,24:2,1:3;25:4,23:5;0");
        int[] own = {9, 3, 2, 1};
        int[] points = {0, 1, 24, 25};
        for (int k = 0; k < points.length; k++) {
            Check.due("men(0, " + points[k] + ")", x.men(0, points[k]), own[k]);
        }
        Check.due("men(1, 0)", x.men(1, 0), 6);
        Check.due("men(1, 23)", x.men(1, 23), 5);
        Check.due("men(1, 25)", x.men(1, 25), 4);
        // The BAR is no POINT of the other's, nor is OFF: MEN of both may be there.
        Check.due("MEN on both BARS", Check.position(new BearHouse(), "25:15;25:15;0"), 0);
        Check.due("one's BAR, the other's OFF", Check.position(new BearHouse(), "25:15;1:1;0"), 0);
    }

    private static void onePlayerAlone() {
        for (int p = 1; p <= 24; p++) {
            BearHouse x = new BearHouse();
            for (int q = 1; q <= 25; q++) {
                String text = p + ":1;" + q + ":1;0";
                Check.due("position " + text, Check.position(x, text), p + q == 25 ? 5 : 0);
            }
        }
        // A POINT that is held by two is shut for the other at 25 - p, and there alone.
        for (int p = 2; p <= 24; p++) {
            ways(p + ":1;" + (26 - p) + ":2;0", 1, 1, "-");
        }
        for (int p = 1; p <= 24; p++) {
            BearHouse x = Show.at("25:1;" + p + ":2;0");
            x.plays(1, 1);
            Check.due("from the BAR with the other's " + p + " held", x.way(0, 0), p == 1 ? -1 : 824);
        }
    }

    private static void whatAPositionTells() {
        for (String text : new String[] {"25:1,24:1,13:2,7:3,1:8;25:2,23:4,2:9;0", "1:15;1:15;1", "25:15;25:15;0",
            ";25:1;1", "25:1;;0", "6:5,5:4,4:3,3:2,2:1;6:5,5:4,4:3,3:2,2:1;1"}) {
            Check.due("the POSITION " + text, Show.board(Show.at(text)), text);
        }
    }

    private static void over() {
        Check.due("ask(3) at first", new BearHouse().ask(3), 0);
        Check.due("0 has all OFF", Show.at(";1:1;0").ask(3), 1);
        Check.due("0 has all OFF, 1's TURN", Show.at(";25:15;1").ask(3), 1);
        Check.due("1 has all OFF", Show.at("1:1;;0").ask(3), 1);
        Check.due("1 has all OFF, its TURN", Show.at("25:1;;1").ask(3), 1);
        Check.due("14 OFF each", Show.at("1:1;1:1;0").ask(3), 0);
        Check.due("14 OFF each, on the BARS", Show.at("25:1;25:1;1").ask(3), 0);
        BearHouse x = Show.at("6:2;1:1;0");
        x.plays(6, 1);
        x.choose(0);
        Check.due("one MAN left", x.men(0, 0) * 10 + x.ask(3), 140);
        BearHouse y = Show.at("6:1;2:2;1");
        y.plays(2, 2);
        y.choose(0);
        Check.due("the last two borne off", y.men(1, 0) * 10 + y.ask(3), 151);
    }

    private static void everyPointByEveryDie() {
        for (int p = 1; p <= 25; p++) {
            for (int d = 1; d <= 6; d++) {
                // The other's MAN on its BAR stands in nobody's way.
                lonelyMan(Show.at(p + ":1;25:1;0"), "0's " + p, p, d);
                lonelyMan(Show.at("25:1;" + p + ":1;1"), "1's " + p, p, d);
            }
        }
    }

    private static void lonelyMan(BearHouse x, String name, int p, int d) {
        Check.due("plays by " + d + " from " + name, x.plays(d, d), 1);
        int at = p;
        for (int k = 0; k < 4; k++) {
            int to = Math.max(at - d, 0);
            Check.due("MOVE " + k + " by " + d + " from " + name, x.way(0, k), at == 0 ? -1 : 32 * at + to);
            at = to;
        }
        int mover = x.ask(0);
        Check.due("where it came to", x.result(0, mover, at), at == 0 ? 15 : 1);
        Check.due("the other one's MAN stays", x.result(0, 1 - mover, 25), 1);
    }

    private static void fromTheBar() {
        // Both ways in are shut: no other MAN may move.
        ways("25:1,6:2;1:2,2:2;0", 1, 2, "-");
        ways("25:1,6:2;1:2;0", 1, 1, "-");
        // One way in: it comes first, then whatever MAN by the other die.
        ways("25:1,6:1;1:2;0", 1, 2, "bar/23 6/5, bar/23 23/22");
        noPlay("25:1,6:1;1:2;0", "6/5 bar/23", 1, 2);
        // Two on the BAR, one way in: the second one stays, and so do all others.
        ways("25:2,6:1;1:2;0", 1, 2, "bar/23");
        behind("25:2,6:1;1:2;0", 1, 2, "25:1,23:1,6:1;1:2;");
        ways("25:2,6:1;12:1;0", 3, 1, "bar/24 bar/22");
        ways("25:3,6:1;12:1;0", 3, 1, "bar/24 bar/22");
        ways("25:3,6:1;12:1;0", 2, 2, "bar/23 bar/23 bar/23 6/4, bar/23 bar/23 bar/23 23/21");
        behind("25:5,6:1;12:1;0", 2, 2, "25:1,23:4,6:1;12:1;");
        behind("25:15;12:1;0", 6, 6, "25:11,19:4;12:1;");
        // PLAYER 1 likewise.
        ways("1:2;25:1,6:1;1", 1, 2, "bar/23 6/5, bar/23 23/22");
        // The other's BAR is nothing to the one who moves.
        ways("6:1;25:1;0", 5, 5, "6/1 1/off");
    }

    private static void atMostOneManThere() {
        ways("8:1;25:1;0", 3, 3, "8/5 5/2 2/off");
        ways("8:1;20:1;0", 3, 3, "8/5 5/2 2/off");
        ways("8:1;20:2;0", 3, 3, "-");
        ways("8:1;20:15;0", 3, 3, "-");
        ways("20:1;8:1;1", 3, 3, "8/5 5/2 2/off");
        ways("20:2;8:1;1", 3, 3, "-");
        // 1 is the least that is above 0, 24 the highest that a MAN comes to.
        ways("4:1;24:1;0", 3, 3, "4/1 1/off");
        ways("4:1;24:2;0", 3, 3, "-");
        ways("25:1;1:1;0", 1, 1, "bar/24 24/23 23/22 22/21");
        ways("25:1;1:2;0", 1, 1, "-");
        ways("25:1;6:1;0", 6, 6, "bar/19 19/13 13/7 7/1");
        ways("25:1;6:2;0", 6, 6, "-");
        // Own MEN shut nothing.
        play("8:1,5:2;25:1;0", "8/5/3", 3, 2);
        play("8:1,5:13;25:1;0", "8/5 5/3", 3, 2);
    }

    private static void hitGoesToTheBar() {
        behind("8:1;20:1;0", 3, 3, ";25:1;");
        behind("11:1;20:1,17:1;0", 3, 3, ";25:2;");
        behind("8:1;25:14,20:1;0", 3, 3, ";25:15;");
        behind("25:1;1:1;0", 1, 1, "21:1;25:1;");
        behind("4:1,3:2;24:1,5:3;0", 3, 3, ";25:1,5:3;");
        behind("20:1;8:1;1", 3, 3, "25:1;;");
        // It is hit where a MAN stops, not where none does.
        behind("24:1;2:1;0", 2, 1, "21:1;25:1;", "21:1;2:1;");
        // A second MAN that comes there finds nobody: none is hit twice.
        BearHouse x = Show.at("8:2;19:1;0");
        x.choose(Check.say(x, "8/6*(2) 6/4(2)", 2, 2));
        Check.due("the other's BAR", x.men(1, 25), 1);
        Check.due("its POINT", x.men(1, 19), 0);
    }

    private static void allAtHome() {
        ways("7:1,6:1;12:1;0", 6, 1, "7/6 6/off, 7/1 6/5");
        noPlay("7:1,6:1;12:1;0", "6/off 7/6", 6, 1);
        ways("7:1,6:1;24:2;0", 6, 6, "-");
        ways("6:2;24:2;0", 6, 6, "6/off 6/off");
        ways("24:1,6:1;7:2;0", 6, 6, "-");
        ways("12:1,6:3;25:1;0", 6, 6, "12/6 6/off 6/off 6/off");
        ways("7:1,1:1;19:2;0", 1, 1, "-");
        ways("6:1,1:1;20:2;0", 1, 1, "1/off");
        ways("12:1;6:1,1:1;1", 6, 6, "6/off 1/off");
        ways("24:2;7:1,6:1;1", 6, 6, "-");
    }

    private static void noneAbove() {
        // p is d, with a MAN above.
        ways("6:1,3:1;12:1;0", 3, 1, "6/5 3/off, 6/5 5/2");
        // p is less than d: not with a MAN above, be it the next POINT.
        ways("6:1,3:1;12:1;0", 4, 1, "6/5 5/1, 6/2 3/2");
        ways("5:1,3:1;12:1;0", 5, 4, "5/1 3/off, 5/off 3/off");
        noPlay("5:1,3:1;12:1;0", "3/off 5/off", 5, 4);
        play("4:1,3:1;12:1;0", "4/off 3/off", 6, 5);
        noPlay("4:1,3:1;12:1;0", "3/off 4/off", 6, 5);
        // MEN on p itself, or below it, are not above it.
        ways("3:2;12:1;0", 6, 5, "3/off 3/off");
        ways("3:1,2:7,1:5;12:1;0", 6, 5, "3/off 2/off");
        ways("1:4;12:1;0", 6, 6, "1/off 1/off 1/off 1/off");
        // p is more than d: p - d is above 0.
        ways("6:1;12:1;0", 5, 5, "6/1 1/off");
        ways("6:1;24:2;0", 5, 5, "-");
    }

    private static void behindTheOnesAhead() {
        play("8:1;12:1;0", "8/5/4", 3, 1);
        play("8:1;12:1;0", "8/5 5/4", 3, 1);
        noPlay("8:1;12:1;0", "8/5 8/7", 3, 1);
        noPlay("8:1;12:1;0", "5/4 8/5", 3, 1);
        play("7:1,6:1;12:1;0", "7/6/off", 6, 1);
        play("25:1;12:1;0", "bar/24/22", 1, 2);
        // Coming from the BAR by the first die, a MAN may go on with the second.
        noPlay("25:1;12:1;0", "24/22 bar/24", 1, 2);
        noPlay("25:2;12:1;0", "bar/24/22", 1, 2);
    }

    private static void unlikeDice() {
        ways("10:1;21:2;0", 6, 5, "10/5 5/off");
        ways("10:1;20:2;0", 6, 5, "10/4 4/off");
        ways("10:1;20:2,21:2;0", 6, 5, "-");
        ways("24:3;25:1;0", 2, 1, "24/23 23/21, 24/23 24/22");
        play("24:3;25:1;0", "24/22 24/23", 2, 1);
        play("24:3;25:1;0", "24/23 24/22", 2, 1);
        noPlay("24:3;25:1;0", "24/22(2)", 2, 1);
        noPlay("24:3;25:1;0", "24/23(2)", 2, 1);
        noPlay("24:3;25:1;0", "24/22 24/23(2)", 2, 1);
        noPlay("24:3;25:1;0", "24/23 24/22(2)", 2, 1);
        noPlay("24:3;25:1;0", "24/21", 2, 1);
        BearHouse x = Show.at("24:3;25:1;0");
        x.plays(2, 1);
        Check.due("a third MOVE", x.way(0, 2), -1);
    }

    private static void alikeDice() {
        BearHouse x = Show.at("24:5;25:1;0");
        Check.due("plays(1, 1)", x.plays(1, 1), 5);
        for (int i = 0; i < 5; i++) {
            Check.due("the fourth MOVE of " + i, x.way(i, 3) > 0 ? 1 : 0, 1);
            Check.due("a fifth MOVE of " + i, x.way(i, 4), -1);
        }
        ways("5:1;12:1;0", 1, 1, "5/4 4/3 3/2 2/1");
        play("5:1;12:1;0", "5/4/3/2/1", 1, 1);
        noPlay("5:1;12:1;0", "5/4/3/2/1/off", 1, 1);
        noPlay("24:5;12:1;0", "24/23(4) 24/23", 1, 1);
        behind("6:15;12:1;0", 6, 6, "6:11;12:1;");
    }

    private static void noRowHasMore() {
        ways("4:1;12:1;0", 6, 3, "4/1 1/off");
        noPlay("4:1;12:1;0", "4/off", 6, 3);
        // 10/4 would leave no MOVE by the other die.
        ways("20:1,10:1;9:2,19:2;0", 6, 4, "20/14 14/10");
        noPlay("20:1,10:1;9:2,19:2;0", "10/4", 6, 4);
        noPlay("20:1,10:1;9:2,19:2;0", "20/14", 6, 4);
        ways("20:1;25:1;0", 4, 4, "20/16 16/12 12/8 8/4");
        ways("20:1;21:2;0", 4, 4, "20/16 16/12 12/8");
        ways("20:1;17:2;0", 4, 4, "20/16 16/12");
        ways("20:1;13:2;0", 4, 4, "20/16");
        ways("20:1;9:2;0", 4, 4, "-");
        noPlay("20:1;25:1;0", "20/16/12/8", 4, 4);
        noPlay("20:1;21:2;0", "20/16/12", 4, 4);
        noPlay("20:1;17:2;0", "20/16", 4, 4);
    }

    private static void byTheGreater() {
        ways("14:1;22:2;0", 6, 5, "14/8");
        noPlay("14:1;22:2;0", "14/9", 6, 5);
        ways("14:1;17:2,22:2;0", 6, 5, "14/9");
        play("14:1;17:2,22:2;0", "14/9", 6, 5);
        ways("14:1;16:2,22:2;0", 6, 5, "14/8");
        ways("20:1,14:1;22:2,16:2,10:2;0", 6, 5, "14/8, 20/14");
        ways("25:1;11:2;0", 6, 5, "bar/19");
        noPlay("25:1;11:2;0", "bar/20", 6, 5);
        ways("22:2;14:1;1", 2, 1, "14/13 13/11");
        ways("22:2;14:1;1", 6, 5, "14/8");
        // Either die bears the MAN off: it is by the greater one, and so is the text.
        ways("3:1;12:1;0", 5, 4, "3/off");
        play("3:1;12:1;0", "3/off", 4, 5);
        // Alike dice have no greater one.
        play("20:1;13:2;0", "20/16", 4, 4);
    }

    private static void emptyRowIn(String text, int a, int b) {
        BearHouse x = Show.at(text);
        Check.due("plays in " + text, x.plays(a, b), 1);
        for (int k = 0; k < 5; k++) {
            Check.due("MOVE " + k + " in " + text, x.way(0, k), -1);
        }
        Check.due("its RESULT in " + text, Show.result(x, 0), text.substring(0, text.length() - 1));
        int turn = x.ask(0);
        Check.due("choose(0) in " + text, x.choose(0), 1 - turn);
        Check.due("behind it", Show.board(x), text.substring(0, text.length() - 1) + (1 - turn));
    }

    private static void theEmptyRow() {
        emptyRowIn("25:1,6:3;2:2,1:2;0", 1, 2);
        emptyRowIn("25:15;6:2,5:2,4:2,3:2,2:2,1:2;0", 6, 6);
        emptyRowIn("20:2;6:1;1", 1, 1);
        emptyRowIn("7:1,1:1;19:2;0", 1, 1);
        noPlay("25:1,6:3;2:2,1:2;0", "6/5 6/4", 1, 2);
    }

    private static void theEmptyRowWhenOver() {
        for (String text : new String[] {"6:1;;0", ";6:1;0", "6:1;;1", ";6:1;1", "25:15;;0"}) {
            emptyRowIn(text, 1, 2);
            emptyRowIn(text, 6, 6);
        }
        noPlay("6:1;;0", "6/off", 6, 6);
        noPlay("6:1;;0", "6/off", 6, 5);
    }

    private static void eachOnce() {
        behind("24:1;25:1;0", 2, 1, "21:1;25:1;");
        behind("24:2;25:1;0", 1, 1, "24:1,20:1;25:1;", "23:1,21:1;25:1;", "22:2;25:1;");
        List<String> all = Show.results("24:2,13:5,8:3,6:5;24:2,13:5,8:3,6:5;0", 3, 1);
        Check.due("RESULTS of 3, 1 at the start", all.stream().distinct().count(), 16);
        Check.due("each once", all.size(), 16);
        for (int player = 0; player < 2; player++) {
            BearHouse x = Show.at("24:2,13:5;24:2,13:5;" + player);
            x.plays(6, 5);
            Check.due("the TURN behind a PLAY of " + player, x.choose(0), 1 - player);
            Check.due("ask(0)", x.ask(0), 1 - player);
        }
    }

    private static void theOrder() {
        behind("6:2;25:1;0", 4, 1, "6:1,1:1;25:1;", "5:1,2:1;25:1;");
        behind("2:1,1:1;25:1;0", 1, 1, ";25:1;");
        behind("5:1,3:1;12:1;0", 5, 4, "1:1;12:1;", ";12:1;");
        // The MEN of the one who moved are the same: then the other's on 25, and on.
        behind("24:1;2:1;0", 2, 1, "21:1;25:1;", "21:1;2:1;");
        behind("24:1;3:1,2:1;0", 2, 1, "21:1;25:1,3:1;", "21:1;25:1,2:1;");
        behind("2:1;24:1;1", 2, 1, "25:1;21:1;", "2:1;21:1;");
        behind("3:1,2:1;24:1;1", 2, 1, "25:1,3:1;21:1;", "25:1,2:1;21:1;");
        ordered("24:2,13:5,8:3,6:5;24:2,13:5,8:3,6:5;0", 0, 3, 1);
        ordered("24:2,13:5,8:3,6:5;24:2,13:5,8:3,6:5;1", 1, 6, 4);
        ordered("24:2,13:5,8:3,6:5;24:2,13:5,8:3,6:5;1", 1, 2, 2);
        ordered("25:1,13:2,6:3;24:1,22:1,20:1,11:1,2:1,1:1;0", 0, 3, 2);
        ordered("6:3,5:2,2:1,1:1;25:1;0", 0, 2, 1);
    }

    private static void ordered(String position, int mover, int a, int b) {
        int count = Show.at(position).plays(a, b);
        int[] ahead = null;
        for (int i = 0; i < count; i++) {
            BearHouse x = Show.at(position);
            x.plays(a, b);
            int[] here = new int[52];
            for (int k = 0; k < 26; k++) {
                here[k] = x.result(i, mover, 25 - k);
                here[26 + k] = x.result(i, 1 - mover, 25 - k);
            }
            Check.due("RESULT " + i + " is behind the one ahead in " + position,
                    ahead == null || Arrays.compare(ahead, here) > 0 ? 1 : 0, 1);
            ahead = here;
        }
        Check.due("there are some", count > 4 ? 1 : 0, 1);
    }

    private static void theWay() {
        ways("24:1;25:1;0", 2, 1, "24/23 23/21");
        ways("24:1;2:1;0", 2, 1, "24/23 23/21, 24/22 22/21");
        ways("13:2;25:1;0", 1, 1, "13/12 12/11 11/10 10/9, 13/12 13/12 12/11 11/10, 13/12 13/12 12/11 12/11");
        ways("7:1,6:1;12:1;0", 6, 1, "7/6 6/off, 7/1 6/5");
        ways("13:1,8:1;25:1;0", 3, 1, "8/7 7/4, 13/12 8/5, 13/10 8/7, 13/12 12/9");
        BearHouse x = Show.at("6:1,1:1;25:1;0");
        x.plays(6, 6);
        Check.due("6/off", x.way(0, 0), 192);
        Check.due("1/off", x.way(0, 1), 32);
        BearHouse y = Show.at("25:1;12:1;0");
        y.plays(1, 1);
        Check.due("bar/24", y.way(0, 0), 824);
    }
}
