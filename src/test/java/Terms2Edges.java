/** The sentences of part 2 of "Terms", the texts, each with a test of its own. */
final class Terms2Edges {
    /** PLAYER 0 can go 8/5 6/5 here with 3, 1; nothing is hit. */
    private static final String PLAIN = "8:3,6:5;12:1;0";

    private Terms2Edges() {
    }

    static void all() {
        holds("TEXTS, at most 400 bytes.", Terms2Edges::fourHundredBytes);
        holds("TOKENS: NUMBERS (digits, as many as there are), WORDS (letters a to z likewise), "
                + "other bytes 33 to 126, one by one;", Terms2Edges::tokens);
        holds("bytes 32 and 10 part them.", Terms2Edges::blanks);
        holds("The first FAULT ends a text: its number, and the place of the token at which it is "
                + "(the text's length at its end):", Terms2Edges::placeOfTheFirstFault);
        holds("1 what can't stand there, or begins no token;", Terms2Edges::faultOne);
        holds("2 a NUMBER of more than two digits, or beyond what is told;", Terms2Edges::faultTwo);
        holds("asked in this order, ahead of the next token.", Terms2Edges::orderOfFaults);
        positions();
        moves();
    }

    private static void positions() {
        holds("A POSITION: men \";\" men \";\" NUMBER, the end.", Terms2Edges::wholePosition);
        holds("men = [ stack { \",\" stack } ]; stack = NUMBER \":\" NUMBER.", Terms2Edges::stacks);
        holds("First PLAYER 0's MEN, then PLAYER 1's: own POINT (1 to 25)", Terms2Edges::ownPoints);
        holds("and how many (1 to 15);", Terms2Edges::howMany);
        holds("all others are OFF;", Terms2Edges::othersAreOff);
        holds("then whose TURN (0, 1).", Terms2Edges::whoseTurn);
        holds("3 at a POINT that this PLAYER has already;", Terms2Edges::pointAgain);
        holds("4 at a number of MEN by which it has more than 15;", Terms2Edges::moreThanFifteen);
        holds("5 at PLAYER 1's POINT where PLAYER 0 has MEN;", Terms2Edges::pointOfTheOther);
        holds("6 at the last NUMBER: both have all OFF.", Terms2Edges::bothHaveAllOff);
    }

    private static void moves() {
        holds("MOVES: move { move }, the end.", Terms2Edges::wholeMoves);
        holds("move = from step { step } [ \"(\" NUMBER \")\" ]; step = \"/\" to [ \"*\" ].", Terms2Edges::move);
        holds("from = NUMBER (1 to 24) | \"bar\";", Terms2Edges::from);
        holds("to = NUMBER (1 to 24) | \"off\".", Terms2Edges::to);
        holds("Each step is a MOVE: from where the one ahead in this move came to (from, at first) to there;",
                Terms2Edges::steps);
        holds("the NUMBER in brackets (2 to 4): all its steps are gone so often, one time behind the other",
                Terms2Edges::brackets);
        holds("(a * counts for the first time alone).", Terms2Edges::starInBrackets);
        holds("At most 8 MOVES (7 at the token by which there are more: a to, or that NUMBER).",
                Terms2Edges::eightMoves);
        holds("A MOVE with * is one that hits, without one that doesn't.", Terms2Edges::stars);
        holds("What they tell is looked at behind the end: 3 they are no PLAY in this order;",
                Terms2Edges::noPlayInThisOrder);
        holds("4 they are one, but a * is wrong (both at the text's length).", Terms2Edges::wrongStar);
    }

    private static void holds(String sentence, Runnable test) {
        Sentences.holds("Terms 2", sentence, test);
    }

    private static void good(String text) {
        bad(text, 0, -1);
    }

    private static void bad(String text, int fault, int place) {
        BearHouse x = new BearHouse();
        Check.due("position \"" + text + "\"", Check.position(x, text), fault);
        Check.due("fault() of \"" + text + "\"", x.fault(), place);
        Check.due("the POSITION is another behind \"" + text + "\"", x.ask(1) == 167 ? 0 : 1, fault == 0 ? 1 : 0);
    }

    private static void badMoves(String position, String text, int a, int b, int fault, int place) {
        BearHouse x = Show.at(position);
        int said = Check.say(x, text, a, b);
        Check.due("say \"" + text + "\" in " + position, Math.min(said, 0), fault == 0 ? 0 : -1 - fault);
        Check.due("fault() of \"" + text + "\" in " + position, x.fault(), place);
    }

    private static void goodMoves(String position, String text, int a, int b) {
        badMoves(position, text, a, b, 0, -1);
    }

    private static void noMoves(String text, int fault, int place) {
        badMoves(PLAIN, text, 1, 1, fault, place);
    }

    private static void fourHundredBytes() {
        good(" ".repeat(394) + "6:1;;1");
        good("6:1;;1" + " ".repeat(394));
        bad(" ".repeat(394) + "6:1;;2", 2, 399);
        bad(" ".repeat(399) + ";", 1, 400);
        bad("6:1;;1" + " ".repeat(393) + ";", 1, 399);
        bad("6:1;;" + "1".repeat(395), 2, 5);
        bad("1".repeat(400), 2, 0);
        bad("a".repeat(400), 1, 0);
        bad("6:1;" + " ".repeat(396), 1, 400);
        goodMoves(PLAIN, "8/5" + " ".repeat(394) + "6/5", 3, 1);
        badMoves(PLAIN, "8/5" + " ".repeat(394) + "6/4", 3, 1, 3, 400);
        badMoves(PLAIN, "8/5" + " ".repeat(396) + "6", 3, 1, 1, 400);
        noMoves("b".repeat(400), 1, 0);
        noMoves("8/" + "0".repeat(398), 2, 2);
    }

    private static void tokens() {
        // A NUMBER has as many digits as there are: 1 and 2 side by side are 12.
        good("12:1;;0");
        bad("1 2:1;;0", 1, 2);
        bad("1\n2:1;;0", 1, 2);
        bad("6:1 1;;0", 1, 4);
        bad("6:1;;0 1", 1, 7);
        bad("6:1;;0\n1", 1, 7);
        // So has a WORD, of letters.
        goodMoves("25:1,6:1;12:1;0", "bar/24 6/4", 1, 2);
        goodMoves("25:1,6:1;12:1;0", "bar/24\n6/4", 1, 2);
        noMoves("b ar/24", 1, 0);
        noMoves("ba\nr/24", 1, 0);
        noMoves("barbar/24", 1, 0);
        noMoves("6/offoff", 1, 2);
        noMoves("6/of f", 1, 2);
        goodMoves("6:1,5:1;12:1;0", "6/off5/off", 6, 5);
        goodMoves("6:1,5:1;12:1;0", "6/off5/off", 5, 6);
        // Others come one by one, without blanks and with them.
        bad(";;;", 1, 2);
        bad("6:1;;;", 1, 5);
        noMoves("8/7//6", 1, 4);
        noMoves("8/7**", 1, 4);
        goodMoves("8:1;18:1;0", "8/7*/6/5/4", 1, 1);
        goodMoves("8:1;18:1;0", "8 / 7\n*\n/ 6 / 5 / 4\n", 1, 1);
        // 0 and 9, a and z are the outermost of their kinds; their neighbours stand alone.
        good("10:9;;0");
        for (char sign : new char[] {'/', ':', '`', '{', '!', '~', 'A', 'Z', '@', '['}) {
            bad("6" + sign + sign + ":1;;0", 1, sign == ':' ? 2 : 1);
            noMoves("bar" + sign + sign + "5", 1, sign == '/' ? 4 : 3);
        }
        noMoves("baz/5", 1, 0);
        noMoves("zar/5", 1, 0);
        noMoves("barz/5", 1, 0);
        noMoves("bara/5", 1, 0);
    }

    private static void blanks() {
        for (int b = 0; b < 256; b++) {
            char c = (char) b;
            boolean blank = b == 32 || b == 10;
            boolean digit = b >= '0' && b <= '9';
            String name = "behind byte " + b + ": ";
            BearHouse x = new BearHouse();
            int due = blank ? 0 : digit ? 2 : 1;
            Check.due(name + "6?:1;;0", Check.position(x, "6" + c + ":1;;0"), due);
            Check.due(name + "its place", x.fault(), blank ? -1 : digit ? 0 : b == ':' ? 2 : 1);
            BearHouse y = new BearHouse();
            // In front of a token, between all of them and at the end.
            String spread = c + "6" + c + ":" + c + "1" + c + ";" + c + ";" + c + "0" + c;
            Check.due(name + "between all", Check.position(y, spread) == 0 ? 1 : 0, blank ? 1 : 0);
            BearHouse z = Show.at(PLAIN);
            int said = Check.say(z, "8/5" + c + "6/5", 3, 1);
            Check.due(name + "8/5?6/5", said >= 0 ? 1 : 0, blank ? 1 : 0);
        }
    }

    private static void placeOfTheFirstFault() {
        bad("26:1,26:1;;2", 2, 0);
        bad("6:1,6:16;;2", 3, 4);
        bad("6:16,6:1;;2", 2, 2);
        bad("6:9,5:9;x", 4, 6);
        bad("6:9,5;9", 1, 5);
        bad("6:1;19:99;7", 5, 4);
        bad("6:1;20:1;7", 2, 9);
        bad(";;0;", 6, 2);
        // The place is the token's, behind the blanks ahead of it, and at its first byte.
        bad("  \n 26:1;;0", 2, 4);
        bad("6:1;;   123", 2, 8);
        bad("6:1  word", 1, 5);
        // At the end it is the text's length, blanks and all.
        bad("", 1, 0);
        bad(" ", 1, 1);
        bad("6", 1, 1);
        bad("6:1;;", 1, 5);
        bad("6:1;;  \n ", 1, 9);
        noMoves("", 1, 0);
        noMoves(" \n ", 1, 3);
        noMoves("8/7 ", 3, 4);
        noMoves("8/ ", 1, 3);
        noMoves("25/0", 2, 0);
        noMoves("8/0 25/1", 2, 2);
        noMoves("8/7 off/1", 1, 4);
        // What is behind n is no part of the text.
        BearHouse x = new BearHouse();
        Check.feed(x, "6:1;;0");
        Check.due("position(5)", x.position(5), 1);
        Check.due("fault()", x.fault(), 5);
    }

    private static void faultOne() {
        bad(":1;;0", 1, 0);
        bad("bar:1;;0", 1, 0);
        bad("6,1;;0", 1, 1);
        bad("6:;;0", 1, 2);
        bad("6:x;;0", 1, 2);
        bad("6:1:;;0", 1, 3);
        bad("6:1;,;0", 1, 4);
        bad("6:1;;;", 1, 5);
        bad("6:1;;x", 1, 5);
        bad("6:1;;0:", 1, 6);
        for (int b : new int[] {0, 1, 9, 11, 13, 31, 127, 128, 160, 255}) {
            String none = "" + (char) b;
            bad(none + "6:1;;0", 1, 0);
            bad("6:1" + none + ";;0", 1, 3);
            bad("6:1;;0" + none, 1, 6);
            bad("6:1;;" + none + "0", 1, 5);
            noMoves(none + "8/7", 1, 0);
            noMoves("8/7" + none, 1, 3);
            noMoves("8/" + none + "7", 1, 2);
        }
    }

    private static void faultTwo() {
        bad("100:1;;0", 2, 0);
        bad("001:1;;0", 2, 0);
        bad("000:1;;0", 2, 0);
        good("01:01;;00");
        good("25:15;;01");
        bad("6:001;;0", 2, 2);
        bad("6:1;;000", 2, 5);
        bad("6:1;;001", 2, 5);
        // Where a number of 32 or 64 bits would wrap around to a good one.
        for (String wrapped : new String[] {"257", "65537", "4294967297", "18446744073709551617"}) {
            bad(wrapped + ":1;;0", 2, 0);
            bad("6:" + wrapped + ";;0", 2, 2);
            bad("6:1;;" + wrapped, 2, 5);
            noMoves(wrapped + "/7", 2, 0);
            noMoves("8/" + wrapped, 2, 2);
            noMoves("8/7(" + wrapped + ")", 2, 4);
        }
        noMoves("008/7", 2, 0);
        noMoves("8/007", 2, 2);
        noMoves("8/7(002)", 2, 4);
        goodMoves("8:4;12:1;0", "08/07(04)", 1, 1);
    }

    private static void orderOfFaults() {
        // 1 ahead of 2: a NUMBER that can't stand there is no matter of its size.
        bad("6:1 999;;0", 1, 4);
        bad("6 999:1;;0", 1, 2);
        bad("6:1;;0 999", 1, 7);
        noMoves("8 999", 1, 2);
        noMoves("8/7(2 999", 1, 6);
        // 2 ahead of the rest: of 4, of 5, of 6, of 7.
        bad("6:15,5:16;;0", 2, 7);
        bad("6:15,5:001;;0", 2, 7);
        bad("6:1;019:1;0", 2, 4);
        bad("6:1,006:1;;0", 2, 4);
        bad(";;2", 2, 2);
        noMoves("8/7(4) 6/5(4) 3/25", 2, 16);
        noMoves("8/7/6/5(5)", 2, 8);
        // All of a token is asked ahead of the next one, be that none.
        bad("6:1,6", 3, 4);
        bad("6:1,6\u0000", 3, 4);
        bad("6:15,5:1\u0000", 4, 7);
        bad("6:1;19\u0000", 5, 4);
        bad(";;0\u0000", 6, 2);
        bad("26\u0000", 2, 0);
        noMoves("8/7(4) 6/5(4) 3/2\u0000", 7, 16);
        noMoves("8/7/6/5(3\u0000", 7, 8);
        noMoves("8/7(5\u0000", 2, 4);
        // 3 and 4 come behind all tokens.
        noMoves("24/1 24/1 x", 1, 10);
        noMoves("24/1* 0/1", 2, 6);
    }

    private static void wholePosition() {
        good("6:1;5:1;0");
        bad("6:1", 1, 3);
        bad("6:1;", 1, 4);
        bad("6:1;5:1", 1, 7);
        bad("6:1;5:1;", 1, 8);
        bad("6:1;5:1;0;", 1, 9);
        bad("6:1;5:1;0 0", 1, 10);
        bad("6:1;5:1;0,", 1, 9);
        bad("6:1;5:1;;0", 1, 8);
        bad("6:1,5:1,0", 2, 8);
        bad(";", 1, 1);
        bad("0", 2, 0);
    }

    private static void stacks() {
        // No stack, one, and as many as a PLAYER has MEN.
        good("1:1;;0");
        good(";1:1;0");
        good("1:1,2:1,3:1,4:1,5:1,6:1,7:1,8:1,9:1,10:1,11:1,12:1,13:1,14:1,15:1;1:1;1");
        good(";25:1,24:1,23:1,22:1,21:1,20:1,19:1,18:1,17:1,16:1,15:1,14:1,13:1,12:1,11:1;0");
        bad("1:1,;;0", 1, 4);
        bad(",1:1;;0", 1, 0);
        bad("1:1,,2:1;;0", 1, 4);
        bad("1:1;2:1,;0", 1, 8);
        bad("1:1;,2:1;0", 1, 4);
        bad("1:1 2:1;;0", 1, 4);
        bad("1:1:1;;0", 1, 3);
        bad("1;;0", 1, 1);
        bad("1:;;0", 1, 2);
        bad(":1;;0", 1, 0);
    }

    private static void ownPoints() {
        for (int value = 0; value <= 99; value++) {
            boolean told = value >= 1 && value <= 25;
            bad(value + ":1;;0", told ? 0 : 2, told ? -1 : 0);
            bad(";" + value + ":1;0", told ? 0 : 2, told ? -1 : 1);
        }
        Check.due("0's first, then 1's", Show.board(Show.at("25:3,1:4;7:15;1")), "25:3,1:4;7:15;1");
        Check.due("in whatever order", Show.board(Show.at("1:4,25:3;7:1,20:2,1:3;0")), "25:3,1:4;20:2,7:1,1:3;0");
    }

    private static void howMany() {
        for (int value = 0; value <= 99; value++) {
            boolean told = value >= 1 && value <= 15;
            bad("6:" + value + ";;0", told ? 0 : 2, told ? -1 : 2);
            bad(";6:" + value + ";0", told ? 0 : 2, told ? -1 : 3);
            if (told) {
                Check.due("men(0, 6)", Show.at("6:" + value + ";;0").men(0, 6), value);
            }
        }
    }

    private static void othersAreOff() {
        BearHouse x = Show.at("25:3,1:4;7:15;1");
        Check.due("all others of 0", x.men(0, 0), 8);
        Check.due("all others of 1", x.men(1, 0), 0);
        Check.due("a text ahead leaves nothing", Check.position(x, "2:1;;0"), 0);
        Check.due("all others of 0", x.men(0, 0), 14);
        Check.due("all of 1", x.men(1, 0), 15);
    }

    private static void whoseTurn() {
        for (int value = 0; value <= 99; value++) {
            bad("6:1;;" + value, value <= 1 ? 0 : 2, value <= 1 ? -1 : 5);
        }
        Check.due("0's TURN", Show.at("6:1;;0").ask(0), 0);
        Check.due("1's TURN", Show.at("6:1;;1").ask(0), 1);
        Check.due("0's TURN, of two digits", Show.at("6:1;;00").ask(0), 0);
        Check.due("1's TURN, of two digits", Show.at("6:1;;01").ask(0), 1);
    }

    private static void pointAgain() {
        bad("6:1,6:1;;0", 3, 4);
        bad("6:1,06:1;;0", 3, 4);
        bad("6:1,5:1,4:1,6:1;;0", 3, 12);
        bad("25:1,25:1;;0", 3, 5);
        bad("24:1,24:1;;0", 3, 5);
        bad("1:1,1:1;;0", 3, 4);
        bad("6:15,6:1;;0", 3, 5);
        bad(";6:1,6:1;0", 3, 5);
        bad(";25:1,25:1;0", 3, 6);
        bad("6:1;5:1,5:1;0", 3, 8);
        // The other PLAYER may have the POINT of that number, and a faulty text does not count.
        good("6:1;6:1;0");
        good("25:1;25:1;0");
        BearHouse x = new BearHouse();
        Check.due("6:1,5:16;;0", Check.position(x, "6:1,5:16;;0"), 2);
        Check.due("6:1;;0", Check.position(x, "6:1;;0"), 0);
        Check.due("6:2;;0", Check.position(x, "6:2;;0"), 0);
    }

    private static void moreThanFifteen() {
        good("6:15;;0");
        good("6:14,5:1;;0");
        good("6:1,5:14;;0");
        good("6:15;7:15;0");
        bad("6:15,5:1;;0", 4, 7);
        bad("6:14,5:2;;0", 4, 7);
        bad("6:1,5:15;;0", 4, 6);
        bad("6:5,5:5,4:5,3:1;;0", 4, 14);
        bad(";6:15,5:1;0", 4, 8);
        bad("6:15;7:8,8:8;0", 4, 11);
        bad("6:15;7:15,25:1;0", 4, 13);
        bad("1:1,2:1,3:1,4:1,5:1,6:1,7:1,8:1,9:1,10:1,11:1,12:1,13:1,14:1,15:1,16:1;;0", 4, 69);
    }

    private static void pointOfTheOther() {
        bad("6:1;19:1;0", 5, 4);
        bad("6:15;1:1,19:1;0", 5, 9);
        bad("1:1;24:1;0", 5, 4);
        bad("24:1;1:1;0", 5, 5);
        bad("12:1;13:1;0", 5, 5);
        bad("13:1;12:1;0", 5, 5);
        bad("6:1,5:1;20:1;0", 5, 8);
        good("6:1;18:1;0");
        good("6:1;20:1;0");
        good("25:1;25:1;0");
        good("25:1;1:1;0");
        good("1:14;25:1;0");
        // It is asked of PLAYER 1's POINTS alone, and of this text alone.
        BearHouse x = Show.at("6:1;;0");
        Check.due("position ;19:1;0", Check.position(x, ";19:1;0"), 0);
    }

    private static void bothHaveAllOff() {
        bad(";;0", 6, 2);
        bad(";;1", 6, 2);
        bad(" ; ; 01", 6, 5);
        bad(";;", 1, 2);
        bad(";;2", 2, 2);
        good("1:1;;0");
        good(";1:1;1");
    }

    private static void wholeMoves() {
        goodMoves("8:1;12:1;0", "8/7/6/5/4", 1, 1);
        goodMoves(PLAIN, "8/7 8/7 6/5 6/5", 1, 1);
        goodMoves(PLAIN, "8/5 6/5", 3, 1);
        noMoves("", 1, 0);
        noMoves("  ", 1, 2);
        noMoves("8/7 6/5 ,", 1, 8);
        noMoves("8/7,6/5", 1, 3);
        noMoves("8/7;", 1, 3);
        noMoves("8/7 6", 1, 5);
        // No MOVE at all has no text, though the empty row is a PLAY.
        badMoves("6:1;;0", "", 1, 1, 1, 0);
    }

    private static void move() {
        noMoves("8", 1, 1);
        noMoves("8/", 1, 2);
        noMoves("/7", 1, 0);
        noMoves("8*/7", 1, 1);
        noMoves("*8/7", 1, 0);
        noMoves("8/*7", 1, 2);
        noMoves("8/7**", 1, 4);
        noMoves("8(2)/7", 1, 1);
        noMoves("(2)8/7", 1, 0);
        noMoves("8/7(2)(2)", 1, 6);
        noMoves("8/7(2)/6", 1, 6);
        noMoves("8/7(2)*", 1, 6);
        noMoves("8/7(2*)", 1, 5);
        noMoves("8/7(", 1, 4);
        noMoves("8/7(2", 1, 5);
        noMoves("8/7()", 1, 4);
        noMoves("8/7(bar)", 1, 4);
        noMoves("8/7 2)", 1, 5);
        noMoves("8/7)", 1, 3);
        noMoves("8/7(2(", 1, 5);
        goodMoves("8:3,6:5;18:1;0", "8/7*(2)6/5(2)", 1, 1);
        goodMoves("8:3,6:5;18:1;0", "8/7* 8/7(2) 6/5", 1, 1);
    }

    private static void from() {
        for (int value = 0; value <= 99; value++) {
            boolean told = value >= 1 && value <= 24;
            // 9 MOVES are too many, so the text is read up to there when the NUMBER is good.
            noMoves(value + "/7(4)5/4(4)3/2", told ? 7 : 2, told ? (value < 10 ? 14 : 15) : 0);
        }
        noMoves("off/7", 1, 0);
        noMoves("8/7 off/7", 1, 4);
        noMoves("baroff", 1, 0);
        noMoves("ba/24", 1, 0);
        noMoves("rab/24", 1, 0);
        goodMoves("25:1;12:1;0", "bar/24/23/22/21", 1, 1);
        goodMoves("24:1;12:1;0", "24/23/22/21/20", 1, 1);
        goodMoves("1:1;12:1;0", "1/off", 1, 1);
        // The BAR is told by its word alone.
        badMoves("25:1;12:1;0", "25/24/23/22/21", 1, 1, 2, 0);
    }

    private static void to() {
        for (int value = 0; value <= 99; value++) {
            boolean told = value >= 1 && value <= 24;
            noMoves("8/" + value, told ? 3 : 2, told ? (value < 10 ? 3 : 4) : 2);
        }
        noMoves("8/bar", 1, 2);
        noMoves("8/7/bar", 1, 4);
        noMoves("bar/of", 1, 4);
        noMoves("bar/ffo", 1, 4);
        goodMoves("25:1;12:1;0", "bar/24/23/22/21", 1, 1);
        goodMoves("2:1;12:1;0", "2/1/off", 1, 1);
        goodMoves("6:1;12:1;0", "6/off", 6, 6);
        // OFF is told by its word alone.
        badMoves("6:1;12:1;0", "6/0", 6, 6, 2, 2);
    }

    private static void steps() {
        goodMoves("8:1;12:1;0", "8/5/4", 3, 1);
        goodMoves("8:1,6:1;12:1;0", "8/5 6/5", 3, 1);
        goodMoves("8:1;12:1;0", "8/5 5/4", 3, 1);
        badMoves("8:1;12:1;0", "8/5/7", 3, 1, 3, 5);
        badMoves("8:2;12:1;0", "8/5/7", 3, 1, 3, 5);
        // A new move begins at its own from, not where the one ahead came to.
        goodMoves("8:2;12:1;0", "8/5 8/7", 3, 1);
        badMoves("8:1;12:1;0", "8/5 8/7", 3, 1, 3, 7);
        // From OFF there is no MOVE, though it can be told.
        badMoves("3:1,2:1;12:1;0", "3/off/off", 3, 2, 3, 9);
        badMoves("3:1,2:1;12:1;0", "3/off/1", 3, 2, 3, 7);
        badMoves("3:1;12:1;0", "3/off/off", 3, 2, 3, 9);
        // A step up, or none, is no MOVE.
        badMoves(PLAIN, "8/8 6/5", 3, 1, 3, 7);
        badMoves(PLAIN, "5/8 6/5", 3, 1, 3, 7);
        badMoves(PLAIN, "8/4", 3, 1, 3, 3);
        badMoves(PLAIN, "1/24 6/5", 3, 1, 3, 8);
    }

    private static void brackets() {
        for (int value = 0; value <= 99; value++) {
            boolean told = value >= 2 && value <= 4;
            badMoves("8:4;12:1;0", "8/7(" + value + ")", 1, 1, value == 4 ? 0 : told ? 3 : 2,
                    value == 4 ? -1 : told ? 6 : 4);
        }
        goodMoves("8:2;12:1;0", "8/7(2) 7/6(2)", 1, 1);
        goodMoves("8:2;12:1;0", "8/7/6(2)", 1, 1);
        goodMoves("8:3,5:1;12:1;0", "8/7(3) 5/4", 1, 1);
        badMoves("8:2;12:1;0", "8/7/6(3)", 1, 1, 3, 8);
        badMoves("8:1;12:1;0", "8/7(4)", 1, 1, 3, 6);
        // One time behind the other: the first MAN goes on while the second is on the BAR yet.
        goodMoves("25:2;12:1;0", "bar/24(2) 24/23(2)", 1, 1);
        badMoves("25:2;12:1;0", "bar/24/23(2)", 1, 1, 3, 12);
        // The brackets are of their own move alone.
        goodMoves("8:1,6:3;12:1;0", "8/7 6/5(3)", 1, 1);
        badMoves("8:1,6:1;12:1;0", "8/7 6/5(2)", 1, 1, 3, 10);
    }

    private static void starInBrackets() {
        goodMoves("8:4;18:1;0", "8/7*(4)", 1, 1);
        badMoves("8:4;18:1;0", "8/7(4)", 1, 1, 4, 6);
        badMoves("8:4;18:1;0", "8/7* 8/7*(3)", 1, 1, 4, 12);
        goodMoves("8:4;18:1;0", "8/7* 8/7(3)", 1, 1);
        goodMoves("8:2;19:1,18:1;0", "8/7*/6*(2)", 1, 1);
        badMoves("8:2;19:1,18:1;0", "8/7*/6(2)", 1, 1, 4, 9);
        badMoves("8:2;19:1,18:1;0", "8/7/6*(2)", 1, 1, 4, 9);
        badMoves("8:2;18:1;0", "8/7*/6*(2)", 1, 1, 4, 10);
        badMoves("8:4;12:1;0", "8/7*(4)", 1, 1, 4, 7);
    }

    private static void eightMoves() {
        // Eight are read; they are no PLAY.
        noMoves("8/7 8/7 8/7 8/7 8/7 8/7 8/7 8/7", 3, 31);
        noMoves("8/7 8/7 8/7 8/7 8/7 8/7 8/7 8/7 8/7", 7, 34);
        noMoves("9/8/7/6/5/4/3/2/1", 3, 17);
        noMoves("9/8/7/6/5/4/3/2/1/off", 7, 18);
        noMoves("9/8/7/6/5/4/3/2/1/1*", 7, 18);
        noMoves("8/7(4) 6/5(4)", 3, 13);
        noMoves("8/7/6(4)", 3, 8);
        noMoves("8/7/6/5/4(2)", 3, 12);
        noMoves("8/7/6/5(3)", 7, 8);
        noMoves("8/7/6/5/4/3(2)", 7, 12);
        noMoves("8/7/6/5/4/3/2/1/off(2)", 7, 20);
        noMoves("8/7(4) 6/5(3) 5/4(2)", 7, 18);
        noMoves("8/7(4) 6/5(2) 5/4(3)", 7, 18);
        noMoves("8/7(4) 6/5(4) 5/off", 7, 16);
        noMoves("8/7(4) 6/5(4) 5/off(2)", 7, 16);
        noMoves("8/7(4) 6/5(4) bar", 1, 17);
        noMoves("8/7(4) 6/5(4) bar/", 1, 18);
        noMoves("8/7(4) 6/5(4) 5/x", 1, 16);
        // What a text told is not counted for the next one.
        BearHouse x = Show.at(PLAIN);
        Check.due("nine", Check.say(x, "8/7(4) 6/5(4) 5/4", 1, 1), -8);
        Check.due("four", Math.min(Check.say(x, "8/7(2) 6/5(2)", 1, 1), 0), 0);
    }

    private static void stars() {
        goodMoves("8:1;20:1;0", "8/5*/4", 3, 1);
        badMoves("8:1;20:1;0", "8/5/4", 3, 1, 4, 5);
        badMoves("8:1;20:1;0", "8/5/4*", 3, 1, 4, 6);
        badMoves("8:1;20:1;0", "8/5*/4*", 3, 1, 4, 7);
        goodMoves("8:1;21:1,20:1;0", "8/5*/4*", 3, 1);
        badMoves("8:1;21:1,20:1;0", "8/5*/4", 3, 1, 4, 6);
        goodMoves("25:1;1:1;0", "bar/24*/23/22/21", 1, 1);
        badMoves("25:1;1:1;0", "bar/24/23/22/21", 1, 1, 4, 15);
        // A MAN that goes OFF hits nobody, nor does one that comes to own MEN.
        goodMoves("6:1;12:1;0", "6/off", 6, 6);
        badMoves("6:1;12:1;0", "6/off*", 6, 6, 4, 6);
        badMoves("8:1,5:1;12:1;0", "8/5* 5/4", 3, 1, 4, 8);
        // The other's MEN on its BAR are hit already.
        badMoves("6:1;25:1;0", "6/off*", 6, 6, 4, 6);
    }

    private static void noPlayInThisOrder() {
        badMoves(PLAIN, "8/5", 3, 1, 3, 3);
        badMoves(PLAIN, "8/5 6/5 6/5", 3, 1, 3, 11);
        badMoves(PLAIN, "8/5 6/4", 3, 1, 3, 7);
        badMoves(PLAIN, "8/5 6/4 \n ", 3, 1, 3, 10);
        // Not in this order, though in another one.
        badMoves("7:1,6:1;12:1;0", "6/off 7/6", 6, 1, 3, 9);
        badMoves("25:1,6:1;12:1;0", "6/5 bar/22", 3, 1, 3, 10);
        goodMoves("25:1,6:1;12:1;0", "bar/22 6/5", 3, 1);
        // The empty row is the only PLAY.
        badMoves("25:1,6:1;1:2;0", "6/5", 1, 1, 3, 3);
        badMoves("6:1;;0", "6/off", 6, 6, 3, 5);
    }

    private static void wrongStar() {
        badMoves(PLAIN, "8/5* 6/5", 3, 1, 4, 8);
        badMoves(PLAIN, "8/5 6/5*", 3, 1, 4, 8);
        badMoves(PLAIN, "8/5 6/5* \n", 3, 1, 4, 10);
        badMoves("8:1,6:1;20:1;0", "8/5 6/5", 3, 1, 4, 7);
        goodMoves("8:1,6:1;20:1;0", "8/5* 6/5", 3, 1);
        goodMoves("8:1,6:1;20:1;0", "6/5* 8/5", 3, 1);
        badMoves("8:1,6:1;20:1;0", "6/5 8/5*", 3, 1, 4, 8);
        // 3 ahead of 4: a * is asked of a PLAY alone.
        badMoves(PLAIN, "8/5*", 3, 1, 3, 4);
    }
}
