/** The sentences of promises 13 to 24, each with a test of its own; and that on 512 calls. */
final class Promises13To24Edges {
    private static final Class<IllegalArgumentException> ARGUMENT = IllegalArgumentException.class;
    private static final Class<IllegalStateException> STATE = IllegalStateException.class;
    private static final String START = "24:2,13:5,8:3,6:5;24:2,13:5,8:3,6:5;0";
    private static final String BEGUN = "1 0 0 1 -1 0 1 0 0 -1 0 0";

    private Promises13To24Edges() {
    }

    static void all() {
        holds(13, "A match to so many POINTS begins, and its first GAME (whatever there was).",
                Promises13To24Edges::whateverThereWas);
        holds(13, "IllegalArgumentException: it is not 0 to 25.", Promises13To24Edges::beginToNoPoints);
        holds(14, "Dice come: the STATE then.", Promises13To24Edges::diceCome);
        holds(14, "IllegalArgumentException: they are not 1 to 6;", Promises13To24Edges::rollOfNoDice);
        holds(14, "IllegalStateException: the STATE is not 1 or 2.", Promises13To24Edges::rollInAnotherState);
        holds(15, "A double: the CUBE as it would be.", Promises13To24Edges::asItWouldBe);
        holds(15, "IllegalStateException: there is none.", Promises13To24Edges::noDouble);
        holds(16, "The double is taken, or passed: the STATE then.", Promises13To24Edges::takenOrPassed);
        holds(16, "IllegalStateException: the STATE is not 4.", Promises13To24Edges::nothingToAnswer);
        holds(17, "The next GAME begins.", Promises13To24Edges::nextGame);
        holds(17, "IllegalStateException: the STATE is not 5.", Promises13To24Edges::noNextGame);
        match();
        bearingOff();
        Sentences.holds("What it is", "An object is used for at most 512 calls after it has been made; "
                + "what later calls answer is free.", Promises13To24Edges::fiveHundredAndTwelveCalls);
    }

    private static void match() {
        holds(18, "Of the match: 0 STATE, 1 SCORE of PLAYER 0, 2 of PLAYER 1, 3 the CUBE, "
                + "4 whose it is (NONE nobody's),", Promises13To24Edges::scoresAndCube);
        holds(18, "5 whether the game is the CRAWFORD one (1, 0),", Promises13To24Edges::whetherCrawford);
        holds(18, "6 GAMES that began, 7 rolls that came (first ones that were alike, too),",
                Promises13To24Edges::gamesAndRolls);
        holds(18, "8 what the latest game that is over was worth (0), 9 who won it (NONE),",
                Promises13To24Edges::theLatestGame);
        holds(18, "10 the greater one of the dice that are due in STATE 3 (0 else), 11 the lesser one.",
                Promises13To24Edges::diceThatAreDue);
        holds(18, "Ahead of any match 0, but 3: 1, 4 and 9: NONE.", Promises13To24Edges::aheadOfAnyMatch);
        holds(18, "IllegalArgumentException: no such what.", Promises13To24Edges::noSuchWhat);
    }

    private static void bearingOff() {
        holds(19, "LEVEL is one more: how many STANDS have just so many PIPS.", Promises13To24Edges::oneLevelMore);
        holds(19, "IllegalStateException: it is 90.", Promises13To24Edges::levelNinety);
        holds(20, "ROLLS of a STAND are printed: how many bytes.", Promises13To24Edges::rollsPrinted);
        holds(20, "IllegalArgumentException: it is none;", Promises13To24Edges::rollsOfNoStand);
        holds(20, "IllegalStateException: it is not KNOWN.", Promises13To24Edges::rollsNotKnown);
        holds(21, "The STAND that BEST comes to with dice a, b.", Promises13To24Edges::bestStand);
        holds(21, "Exceptions likewise", Promises13To24Edges::bestRefused);
        holds(21, "(IllegalArgumentException: the dice, too).", Promises13To24Edges::bestWithNoDice);
        holds(22, "WITHIN n rolls is printed: how many bytes.", Promises13To24Edges::withinPrinted);
        holds(22, "IllegalArgumentException: it is no STAND, or n is not 0 to 12;",
                Promises13To24Edges::withinOfNoStand);
        holds(22, "IllegalStateException likewise.", Promises13To24Edges::withinNotKnown);
        holds(23, "RACE is printed: how many bytes.", Promises13To24Edges::racePrinted);
        holds(23, "IllegalArgumentException: one is no STAND;", Promises13To24Edges::raceOfNoStand);
        holds(23, "IllegalStateException: one is not KNOWN,", Promises13To24Edges::raceNotKnown);
        holds(23, "or WITHIN 12 is not 1 for both;", Promises13To24Edges::raceNotSure);
        holds(23, "UnsupportedOperationException: both are 0.", Promises13To24Edges::raceOfNone);
        holds(24, "Byte k of the PAGE;", Promises13To24Edges::byteOfThePage);
        holds(24, "NONE without one.", Promises13To24Edges::noByte);
    }

    private static void holds(int promise, String sentence, Runnable test) {
        Sentences.holds("Promise " + promise, sentence, test);
    }

    private static BearHouse learned(int level) {
        return Terms4Edges.learned(level);
    }

    private static void printed(BearHouse x, String call, int bytes, String want) {
        Terms4Edges.printed(x, call, bytes, want);
    }

    private static void whateverThereWas() {
        for (int state = 0; state <= 6; state++) {
            BearHouse x = Show.inState(state);
            if (state == 3) {
                x.plays(3, 1);
            }
            x.begin(state);
            Check.due("match() begun in STATE " + state, Show.match(x), BEGUN);
            Check.due("the POSITION begun in STATE " + state, Show.board(x), START);
            Check.due("RESULTS", x.ask(6), 0);
            Check.noElement("choose(0)", () -> x.choose(0));
        }
        // RESULTS, TAPE, PAGE and LEVEL from outside: the POSITION's go with it, the others stay.
        BearHouse x = Show.at("6:1;;1");
        x.plays(6, 5);
        x.learn();
        x.rolls(1);
        x.feed(0, 0, 0, 0, 0);
        x.begin(25);
        Check.due("RESULTS", x.ask(6), 0);
        Check.due("TAPE, PAGE, LEVEL", x.ask(4) * 100 + x.ask(5) * 10 + x.ask(7), 2011);
        Check.due("match()", Show.match(x), BEGUN);
        // A match that was won is forgotten.
        BearHouse y = new BearHouse();
        y.begin(2);
        Show.winByPass(y, 1);
        y.begin(2);
        Check.due("match()", Show.match(y), BEGUN);
        Check.due("one point of 2", Show.winByPass(y, 0), 5);
        Check.due("SCORES", y.match(1) * 10 + y.match(2), 10);
    }

    private static void refusedBegin(BearHouse x, int points) {
        Check.badArgument("begin(" + points + ")", () -> {
            x.begin(points);
            return 0;
        });
    }

    private static void beginToNoPoints() {
        BearHouse x = Show.inState(4);
        String before = Show.all(x);
        refusedBegin(x, -1);
        refusedBegin(x, 26);
        for (int far : Show.FAR) {
            refusedBegin(x, far);
        }
        Check.due("nothing is another", Show.all(x), before);
        for (int points : new int[] {0, 1, 25}) {
            BearHouse y = new BearHouse();
            y.begin(points);
            Check.due("begin(" + points + ")", y.match(0), 1);
        }
    }

    private static void diceCome() {
        BearHouse x = new BearHouse();
        x.begin(1);
        Check.due("roll(1, 1)", x.roll(1, 1), 1);
        Check.due("roll(6, 6)", x.roll(6, 6), 1);
        Check.due("roll(6, 1)", x.roll(6, 1), 3);
        x.plays(6, 1);
        x.choose(0);
        Check.due("roll(6, 6) in STATE 2", x.roll(6, 6), 3);
        Check.due("no RESULTS yet", x.ask(6), 0);
        Check.due("match()", Show.match(x), "3 0 0 1 -1 0 1 4 0 -1 6 6");
        BearHouse y = Show.inState(4);
        y.answer(true);
        Check.due("roll(1, 1) behind a double", y.roll(1, 1), 3);
        Check.due("the TURN", y.ask(0), 0);
    }

    private static void rollOfNoDice() {
        for (int state : new int[] {1, 2}) {
            BearHouse x = Show.inState(state);
            for (int far : Show.FAR) {
                Check.badArgument("roll(" + far + ", 1)", () -> x.roll(far, 1));
                Check.badArgument("roll(1, " + far + ")", () -> x.roll(1, far));
            }
            Check.badArgument("roll(0, 1)", () -> x.roll(0, 1));
            Check.badArgument("roll(1, 0)", () -> x.roll(1, 0));
            Check.badArgument("roll(7, 6)", () -> x.roll(7, 6));
            Check.badArgument("roll(6, 7)", () -> x.roll(6, 7));
            Check.refused(ARGUMENT, "roll(-1, -1)", x, () -> x.roll(-1, -1));
            Check.due("roll(6, 1)", x.roll(6, 1), 3);
        }
        for (int state : new int[] {0, 3, 4, 5, 6}) {
            BearHouse x = Show.inState(state);
            Check.badArgument("roll(0, 7) in STATE " + state, () -> x.roll(0, 7));
        }
    }

    private static void rollInAnotherState() {
        for (int state : new int[] {0, 3, 4, 5, 6}) {
            BearHouse x = Show.inState(state);
            Check.refused(STATE, "roll(3, 1) in STATE " + state, x, () -> x.roll(3, 1));
            Check.badState("roll(6, 6) in STATE " + state, () -> x.roll(6, 6));
        }
        // STATE 3 goes on until a RESULT is chosen.
        BearHouse x = Show.inState(3);
        x.plays(3, 1);
        Check.badState("roll(3, 1) behind plays()", () -> x.roll(3, 1));
        x.choose(0);
        Check.due("roll(3, 1) behind choose()", x.roll(3, 1), 3);
    }

    private static void asItWouldBe() {
        BearHouse x = Show.inState(2);
        Check.due("offer()", x.offer(), 2);
        Check.due("the CUBE is not yet", x.match(3), 1);
        Check.due("it is nobody's", x.match(4), -1);
        Check.due("STATE", x.match(0), 4);
        x.answer(true);
        Show.turn(x);
        Check.due("offer() at 2", x.offer(), 4);
        Check.due("the CUBE", x.match(3), 2);
        // To 1 as well, and without end.
        for (int points : new int[] {0, 1}) {
            BearHouse y = new BearHouse();
            y.begin(points);
            Show.toDouble(y, 1);
            Check.due("offer() in a match to " + points, y.offer(), 2);
        }
    }

    private static void noDouble() {
        for (int state : new int[] {0, 1, 3, 4, 5, 6}) {
            BearHouse x = Show.inState(state);
            Check.refused(STATE, "offer() in STATE " + state, x, x::offer);
        }
        BearHouse x = Show.inState(4);
        x.answer(true);
        Check.refused(STATE, "offer() of the other's CUBE", x, x::offer);
        BearHouse y = new BearHouse();
        y.begin(2);
        Show.winByPass(y, 1);
        y.next();
        Show.toDouble(y, 0);
        Check.refused(STATE, "offer() in the CRAWFORD game", y, y::offer);
    }

    private static void takenOrPassed() {
        Check.due("taken", Show.inState(4).answer(true), 2);
        Check.due("passed", Show.inState(4).answer(false), 5);
        BearHouse x = new BearHouse();
        x.begin(1);
        Show.toDouble(x, 1);
        x.offer();
        Check.due("passed for the match", x.answer(false), 6);
        Check.due("match()", Show.match(x), "6 0 1 1 -1 0 1 1 1 1 0 0");
        BearHouse y = new BearHouse();
        y.begin(1);
        Show.toDouble(y, 1);
        y.offer();
        Check.due("taken in a match to 1", y.answer(true), 2);
    }

    private static void nothingToAnswer() {
        for (int state : new int[] {0, 1, 2, 3, 5, 6}) {
            BearHouse x = Show.inState(state);
            Check.refused(STATE, "answer(true) in STATE " + state, x, () -> x.answer(true));
            Check.badState("answer(false) in STATE " + state, () -> x.answer(false));
        }
        BearHouse x = Show.inState(4);
        x.answer(true);
        Check.badState("answer(true) twice", () -> x.answer(true));
    }

    private static void nextGame() {
        BearHouse x = new BearHouse();
        x.begin(5);
        for (int game = 1; game <= 3; game++) {
            Check.due("GAMES", x.match(6), game);
            Check.due("won by a pass", Show.winByPass(x, game % 2), 5);
            x.next();
            Check.due("STATE", x.match(0), 1);
        }
        Check.due("match()", Show.match(x), "1 1 2 1 -1 0 4 3 1 1 0 0");
        Check.due("the POSITION", Show.board(x), START);
        Check.due("RESULTS", x.ask(6), 0);
    }

    private static void noNextGame() {
        for (int state : new int[] {0, 1, 2, 3, 4, 6}) {
            BearHouse x = Show.inState(state);
            Check.refused(STATE, "next() in STATE " + state, x, () -> {
                x.next();
                return 0;
            });
        }
        BearHouse x = Show.inState(5);
        x.next();
        Check.badState("next() twice", () -> {
            x.next();
            return 0;
        });
        Check.due("GAMES", x.match(6), 2);
    }

    private static void scoresAndCube() {
        for (int state = 0; state <= 6; state++) {
            Check.due("match(0)", Show.inState(state).match(0), state);
        }
        BearHouse x = new BearHouse();
        x.begin(25);
        Show.game(x, 1, 2, Games.NONE_OFF_BAR);
        Check.due("match() at the end of a game", Show.match(x), "5 0 12 4 0 0 1 19 12 1 0 0");
        x.next();
        Check.due("match() in the next one", Show.match(x), "1 0 12 1 -1 0 2 19 12 1 0 0");
        Show.game(x, 0, 1, Games.ONE_OFF_6);
        Check.due("match() at its end", Show.match(x), "5 2 12 2 0 0 2 40 2 0 0 0");
        // In STATE 6 it is what it was at the end.
        BearHouse y = new BearHouse();
        y.begin(6);
        Show.game(y, 0, 2, Games.NONE_OFF_BAR);
        Check.due("match() in STATE 6", Show.match(y), "6 12 0 4 1 0 1 19 12 0 0 0");
    }

    private static void whetherCrawford() {
        BearHouse x = new BearHouse();
        Check.due("ahead of any match", x.match(5), 0);
        x.begin(2);
        Check.due("in STATE 1", x.match(5), 0);
        Show.winByPass(x, 0);
        Check.due("in STATE 5, ahead of it", x.match(5), 0);
        x.next();
        Check.due("in STATE 1 of it", x.match(5), 1);
        x.roll(2, 1);
        Check.due("in STATE 3 of it", x.match(5), 1);
        x.plays(2, 1);
        x.choose(0);
        Check.due("in STATE 2 of it", x.match(5), 1);
        x.begin(2);
        Check.due("in the next match", x.match(5), 0);
        BearHouse y = new BearHouse();
        y.begin(2);
        Show.winByPass(y, 0);
        y.next();
        Show.game(y, 1, 0, Games.ONE_OFF_6);
        Check.due("in STATE 5 behind it", y.match(0) * 10 + y.match(5), 51);
        y.next();
        Check.due("1 : 1, no second one", y.match(5), 0);
    }

    private static void gamesAndRolls() {
        BearHouse x = new BearHouse();
        x.begin(0);
        Check.due("behind begin()", x.match(6) * 10 + x.match(7), 10);
        x.roll(5, 5);
        Check.due("alike first ones", x.match(6) * 10 + x.match(7), 11);
        x.roll(5, 5);
        x.roll(1, 2);
        Check.due("unlike ones", x.match(6) * 10 + x.match(7), 13);
        Check.badState("roll(1, 2) in STATE 3", () -> x.roll(1, 2));
        Check.badArgument("roll(0, 2)", () -> x.roll(0, 2));
        Check.due("refused ones do not count", x.match(7), 3);
        x.plays(1, 2);
        x.choose(0);
        x.roll(4, 4);
        Check.due("alike later ones", x.match(7), 4);
        x.plays(4, 4);
        x.choose(0);
        x.offer();
        x.answer(false);
        x.next();
        Check.due("they go on in the next game", x.match(6) * 10 + x.match(7), 24);
        x.roll(3, 3);
        Check.due("there too", x.match(6) * 10 + x.match(7), 25);
        x.begin(0);
        Check.due("they begin anew in a match", x.match(6) * 10 + x.match(7), 10);
    }

    private static void theLatestGame() {
        BearHouse x = new BearHouse();
        Check.due("ahead of any match", x.match(8) * 10 + x.match(9), -1);
        x.begin(7);
        Check.due("ahead of the first end", x.match(8) * 10 + x.match(9), -1);
        Show.winByPass(x, 1);
        Check.due("at its end", x.match(8) * 10 + x.match(9), 11);
        x.next();
        Show.toDouble(x, 1);
        Check.due("in the next game", x.match(8) * 10 + x.match(9), 11);
        x.offer();
        x.answer(true);
        Show.turn(x);
        x.offer();
        x.answer(false);
        Check.due("behind that", x.match(8) * 10 + x.match(9), 20);
        x.begin(7);
        Check.due("in a new match", x.match(8) * 10 + x.match(9), -1);
    }

    private static void diceThatAreDue() {
        for (int state = 0; state <= 6; state++) {
            BearHouse x = Show.inState(state);
            Check.due("match(10) in STATE " + state, x.match(10), state == 3 ? 3 : 0);
            Check.due("match(11) in STATE " + state, x.match(11), state == 3 ? 1 : 0);
        }
        BearHouse x = Show.inState(2);
        x.roll(1, 6);
        Check.due("1, 6", x.match(10) * 10 + x.match(11), 61);
        x.plays(1, 6);
        Check.due("behind plays()", x.match(10) * 10 + x.match(11), 61);
        x.choose(0);
        Check.due("behind choose()", x.match(10) * 10 + x.match(11), 0);
        x.roll(6, 6);
        Check.due("6, 6", x.match(10) * 10 + x.match(11), 66);
        x.begin(3);
        Check.due("behind begin()", x.match(10) * 10 + x.match(11), 0);
        x.roll(2, 2);
        Check.due("alike first ones are not due", x.match(10) * 10 + x.match(11), 0);
        BearHouse y = new BearHouse();
        y.begin(25);
        Show.game(y, 0, 0, Games.NONE_OFF_24);
        Check.due("behind the last PLAY", y.match(10) * 10 + y.match(11), 0);
    }

    private static void aheadOfAnyMatch() {
        BearHouse x = new BearHouse();
        Check.due("match()", Show.match(x), "0 0 0 1 -1 0 0 0 0 -1 0 0");
        Check.position(x, "1:1;1:1;0");
        x.plays(6, 5);
        x.choose(0);
        Check.due("match() behind a game outside", Show.match(x), "0 0 0 1 -1 0 0 0 0 -1 0 0");
        refusedBegin(x, 26);
        Check.badState("roll(1, 2)", () -> x.roll(1, 2));
        Check.due("match() behind refused calls", Show.match(x), "0 0 0 1 -1 0 0 0 0 -1 0 0");
    }

    private static void noSuchWhat() {
        for (int state = 0; state <= 6; state += 3) {
            BearHouse x = Show.inState(state);
            for (int far : Show.FAR) {
                Check.badArgument("match(" + far + ")", () -> x.match(far));
            }
            Check.refused(ARGUMENT, "match(-1)", x, () -> x.match(-1));
            Check.refused(ARGUMENT, "match(12)", x, () -> x.match(12));
            Check.due("match(11)", x.match(11), state == 3 ? 1 : 0);
        }
    }

    private static void oneLevelMore() {
        int[] want = new int[91];
        count(want, 6, 15, 0);
        BearHouse x = new BearHouse();
        int sum = 1;
        for (int level = 1; level <= 90; level++) {
            int got = x.learn();
            Check.due("learn() to " + level, got, want[level]);
            Check.due("LEVEL", x.ask(7), level);
            sum += got;
        }
        Check.due("all STANDS", sum, 54264);
        Check.due("of 1 PIP", want[1], 1);
        Check.due("of 15 PIPS: 15 on 1 is the last of at most 15", want[15], 110);
        Check.due("of 90 PIPS", want[90], 1);
        // In a match as well.
        BearHouse y = Show.inState(3);
        Check.due("learn() in STATE 3", y.learn(), 1);
        Check.due("the STATE stays", y.match(0), 3);
    }

    private static void count(int[] want, int point, int left, int pips) {
        if (point == 0) {
            want[pips]++;
            return;
        }
        for (int men = 0; men <= left; men++) {
            count(want, point - 1, left - men, pips + men * point);
        }
    }

    private static void levelNinety() {
        BearHouse x = learned(89);
        Check.due("learn() at 89", x.learn(), 1);
        Check.refused(STATE, "learn() at 90", x, x::learn);
        Check.badState("once more", x::learn);
        Check.due("LEVEL", x.ask(7), 90);
    }

    private static void rollsPrinted() {
        BearHouse x = learned(5);
        printed(x, "rolls(0)", x.rolls(0), "0");
        printed(x, "rolls(0x10000)", x.rolls(0x10000), "41/36");
        Check.due("ask(5)", x.ask(5), 5);
        printed(x, "rolls(1)", x.rolls(1), "1");
        Check.due("ask(5)", x.ask(5), 1);
        // The longest there is.
        BearHouse y = learned(90);
        Check.due("rolls(0xf00000)", y.rolls(0xf00000), 85);
        Check.due("ask(5)", y.ask(5), 85);
        Check.due("the first byte", y.octet(0), '1');
        Check.due("the last byte", y.octet(84), '4');
    }

    /** Numbers that are no STANDS. */
    private static final int[] NO_STANDS = {-1, -16, 0x1f, 0xf1, 0x88, 0xffffff, 0x1000000, 0x1000001, 0x10000000,
        Integer.MIN_VALUE, Integer.MAX_VALUE};

    private static void rollsOfNoStand() {
        BearHouse x = learned(5);
        x.rolls(3);
        for (int stand : NO_STANDS) {
            Check.badArgument("rolls(" + stand + ")", () -> x.rolls(stand));
        }
        Check.refused(ARGUMENT, "rolls(0x100000f)", x, () -> x.rolls(0x100000f));
        Check.due("the PAGE stays", Check.page(x), "11/6");
        BearHouse y = learned(90);
        for (int stand : NO_STANDS) {
            Check.badArgument("rolls(" + stand + ") at LEVEL 90", () -> y.rolls(stand));
        }
    }

    private static void rollsNotKnown() {
        BearHouse x = learned(5);
        x.rolls(3);
        Check.badState("rolls(6)", () -> x.rolls(6));
        Check.badState("rolls(0xf00000)", () -> x.rolls(0xf00000));
        Check.refused(STATE, "rolls(0x100000) at LEVEL 5", x, () -> x.rolls(0x100000));
        Check.due("the PAGE stays", Check.page(x), "11/6");
        x.learn();
        printed(x, "rolls(0x100000) at LEVEL 6", x.rolls(0x100000), "5/4");
    }

    private static void bestStand() {
        BearHouse x = learned(90);
        x.rolls(3);
        Check.due("best(0, 6, 6)", x.best(0, 6, 6), 0);
        Check.due("best(0x100000, 1, 2)", x.best(0x100000, 1, 2), 0x100);
        Check.due("best(0x100000, 2, 1)", x.best(0x100000, 2, 1), 0x100);
        Check.due("best(0x100000, 6, 1)", x.best(0x100000, 6, 1), 0);
        Check.due("best(0xf00000, 6, 6)", x.best(0xf00000, 6, 6), 0xb00000);
        Check.due("best(0xf, 1, 1)", x.best(0xf, 1, 1), 0xb);
        Check.due("best(0xf, 6, 5)", x.best(0xf, 6, 5), 0xd);
        Check.due("nothing is printed", Check.page(x), "11/6");
        Check.due("the board stays", Show.board(x), START);
    }

    private static void bestRefused() {
        BearHouse x = learned(5);
        for (int stand : NO_STANDS) {
            Check.badArgument("best(" + stand + ", 1, 1)", () -> x.best(stand, 1, 1));
        }
        Check.refused(STATE, "best(0x100000, 1, 1) at LEVEL 5", x, () -> x.best(0x100000, 1, 1));
        Check.badState("best(6, 6, 6) at LEVEL 5", () -> x.best(6, 6, 6));
        Check.refused(ARGUMENT, "best(-1, 1, 1)", x, () -> x.best(-1, 1, 1));
        x.learn();
        Check.due("best(6, 6, 6) at LEVEL 6", x.best(6, 6, 6), 2);
    }

    private static void bestWithNoDice() {
        BearHouse x = learned(5);
        for (int far : Show.FAR) {
            Check.badArgument("best(1, " + far + ", 1)", () -> x.best(1, far, 1));
            Check.badArgument("best(1, 1, " + far + ")", () -> x.best(1, 1, far));
        }
        for (int die : new int[] {-1, 0, 7}) {
            Check.badArgument("best(1, " + die + ", 1)", () -> x.best(1, die, 1));
            Check.badArgument("best(1, 1, " + die + ")", () -> x.best(1, 1, die));
            Check.badArgument("best(0, " + die + ", 1)", () -> x.best(0, die, 1));
            Check.badArgument("best(6, 1, " + die + "), not KNOWN", () -> x.best(6, 1, die));
        }
        Check.refused(ARGUMENT, "best(1, 0, 7)", x, () -> x.best(1, 0, 7));
        Check.due("best(5, 6, 1)", x.best(5, 6, 1), 3);
        Check.due("best(5, 1, 6)", x.best(5, 1, 6), 3);
    }

    private static void withinPrinted() {
        BearHouse x = learned(5);
        printed(x, "within(5, 0)", x.within(5, 0), "0");
        printed(x, "within(5, 1)", x.within(5, 1), "0");
        // Five MEN on 1: three rolls, or two if one is alike: 11/36.
        printed(x, "within(5, 2)", x.within(5, 2), "11/36");
        printed(x, "within(5, 3)", x.within(5, 3), "1");
        printed(x, "within(5, 12)", x.within(5, 12), "1");
        printed(x, "within(0, 0)", x.within(0, 0), "1");
        printed(x, "within(0, 12)", x.within(0, 12), "1");
        Check.due("ask(5)", x.ask(5), 1);
    }

    private static void withinOfNoStand() {
        BearHouse x = learned(5);
        x.rolls(3);
        for (int stand : NO_STANDS) {
            Check.badArgument("within(" + stand + ", 1)", () -> x.within(stand, 1));
        }
        for (int far : Show.FAR) {
            Check.badArgument("within(1, " + far + ")", () -> x.within(1, far));
        }
        Check.badArgument("within(1, -1)", () -> x.within(1, -1));
        Check.badArgument("within(1, 13)", () -> x.within(1, 13));
        Check.badArgument("within(0, 13)", () -> x.within(0, 13));
        Check.badArgument("within(6, 13), not KNOWN", () -> x.within(6, 13));
        Check.refused(ARGUMENT, "within(3, 13)", x, () -> x.within(3, 13));
        Check.due("the PAGE stays", Check.page(x), "11/6");
        printed(x, "within(3, 12)", x.within(3, 12), "1");
        printed(x, "within(3, 0)", x.within(3, 0), "0");
    }

    private static void withinNotKnown() {
        BearHouse x = learned(5);
        x.rolls(3);
        Check.badState("within(6, 12)", () -> x.within(6, 12));
        Check.badState("within(6, 0)", () -> x.within(6, 0));
        Check.refused(STATE, "within(0x100000, 1) at LEVEL 5", x, () -> x.within(0x100000, 1));
        Check.due("the PAGE stays", Check.page(x), "11/6");
    }

    private static void racePrinted() {
        BearHouse x = learned(6);
        printed(x, "race(0x100000, 0x100000)", x.race(0x100000, 0x100000), "13/16");
        printed(x, "race(0, 0x100000)", x.race(0, 0x100000), "1");
        printed(x, "race(0x100000, 0)", x.race(0x100000, 0), "0");
        printed(x, "race(1, 1)", x.race(1, 1), "1");
        BearHouse y = learned(36);
        printed(y, "a long one", y.race(0x42032, 0x23070),
                "13130348382427792806271421612641/16918235275724100929608539439104");
        Check.due("ask(5)", y.ask(5), 65);
    }

    private static void raceOfNoStand() {
        BearHouse x = learned(5);
        x.rolls(3);
        for (int stand : NO_STANDS) {
            Check.badArgument("race(" + stand + ", 1)", () -> x.race(stand, 1));
            Check.badArgument("race(1, " + stand + ")", () -> x.race(1, stand));
            Check.badArgument("race(0, " + stand + ")", () -> x.race(0, stand));
            Check.badArgument("race(0x100000, " + stand + "), not KNOWN", () -> x.race(0x100000, stand));
            Check.badArgument("race(" + stand + ", 0x100000), not KNOWN", () -> x.race(stand, 0x100000));
        }
        Check.refused(ARGUMENT, "race(-1, -1)", x, () -> x.race(-1, -1));
        Check.due("the PAGE stays", Check.page(x), "11/6");
    }

    private static void raceNotKnown() {
        BearHouse x = learned(5);
        Check.badState("race(0x100000, 1) at LEVEL 5", () -> x.race(0x100000, 1));
        Check.badState("race(1, 0x100000) at LEVEL 5", () -> x.race(1, 0x100000));
        Check.badState("race(0x100000, 0) at LEVEL 5", () -> x.race(0x100000, 0));
        Check.badState("race(0, 0x100000) at LEVEL 5", () -> x.race(0, 0x100000));
        Check.refused(STATE, "race(6, 6) at LEVEL 5", x, () -> x.race(6, 6));
        x.learn();
        printed(x, "race(0x100000, 1) at LEVEL 6", x.race(0x100000, 1), "3/4");
        printed(x, "race(1, 0x100000) at LEVEL 6", x.race(1, 0x100000), "1");
    }

    private static void raceNotSure() {
        // 36 PIPS that twelve rolls always bear off, and 35 that they may not.
        BearHouse x = learned(36);
        printed(x, "within(0xc00, 12)", x.within(0xc00, 12), "1");
        printed(x, "race(0xc00, 1)", x.race(0xc00, 1), "0");
        printed(x, "race(1, 0xc00)", x.race(1, 0xc00), "1");
        Check.refused(STATE, "race(0xa05, 1)", x, () -> x.race(0xa05, 1));
        Check.badState("race(1, 0xa05)", () -> x.race(1, 0xa05));
        Check.badState("race(0xa05, 0)", () -> x.race(0xa05, 0));
        Check.badState("race(0, 0xa05)", () -> x.race(0, 0xa05));
        Check.badState("race(0xa05, 0xa05)", () -> x.race(0xa05, 0xa05));
        printed(x, "within(0xa05, 12)", x.within(0xa05, 12), "128536820158439/128536820158464");
        BearHouse y = learned(90);
        Check.badState("race(0xf00000, 0xf00000)", () -> y.race(0xf00000, 0xf00000));
        Check.badState("race(0, 0xf00000)", () -> y.race(0, 0xf00000));
    }

    private static void raceOfNone() {
        BearHouse x = new BearHouse();
        Check.refused(UnsupportedOperationException.class, "race(0, 0) at LEVEL 0", x, () -> x.race(0, 0));
        BearHouse y = learned(3);
        y.rolls(3);
        Check.refused(UnsupportedOperationException.class, "race(0, 0) at LEVEL 3", y, () -> y.race(0, 0));
        Check.due("the PAGE stays", Check.page(y), "11/6");
        printed(y, "race(0, 1)", y.race(0, 1), "1");
        printed(y, "race(1, 0)", y.race(1, 0), "0");
    }

    private static void byteOfThePage() {
        BearHouse x = learned(5);
        x.rolls(0x10000);
        int[] bytes = {'4', '1', '/', '3', '6'};
        for (int k = 0; k < bytes.length; k++) {
            Check.due("octet(" + k + ")", x.octet(k), bytes[k]);
        }
        // Calls that print nothing leave it.
        x.plays(3, 1);
        x.choose(0);
        x.begin(3);
        x.learn();
        Check.badState("rolls(0xf)", () -> x.rolls(0xf));
        Check.due("octet(4)", x.octet(4), '6');
        Check.due("ask(5)", x.ask(5), 5);
    }

    private static void noByte() {
        BearHouse x = learned(5);
        Check.due("octet(0) of an empty PAGE", x.octet(0), -1);
        Check.due("octet(-1) of an empty PAGE", x.octet(-1), -1);
        x.rolls(0x10000);
        Check.due("octet(4) of five", x.octet(4), '6');
        Check.due("octet(5) of five", x.octet(5), -1);
        Check.due("octet(-1)", x.octet(-1), -1);
        Check.due("octet(399)", x.octet(399), -1);
        Check.due("octet(400)", x.octet(400), -1);
        for (int far : Show.FAR) {
            Check.due("octet(" + far + ")", x.octet(far), -1);
        }
        x.rolls(1);
        Check.due("octet(1) of one, five ahead", x.octet(1), -1);
    }

    private static void fiveHundredAndTwelveCalls() {
        BearHouse x = new BearHouse();
        for (int k = 1; k <= 90; k++) {
            x.learn();
        }
        // 91 to 500: 82 times five calls that leave all as it was.
        for (int k = 0; k < 82; k++) {
            x.plays(k % 6 + 1, k / 6 % 6 + 1);
            x.choose(0);
            x.feed(k, k, k, k, k);
            x.position(20);
            x.back();
        }
        Check.due("call 501", x.rolls(0xf00000), 85);
        Check.due("call 502", x.octet(84), '4');
        Check.due("call 503", x.plays(3, 1), 16);
        Check.due("call 504", x.way(0, 0), 197);
        Check.due("call 505", x.within(0xf00000, 4), 9);
        Check.due("call 506", x.best(0xf00000, 6, 6), 0xb00000);
        Check.due("call 507", x.choose(15), 1);
        x.begin(25);
        Check.due("call 509", x.roll(6, 5), 3);
        Check.due("call 510", x.plays(6, 5) > 1 ? 1 : 0, 1);
        Check.due("call 511", x.choose(0), 1);
        Check.due("call 512", x.offer(), 2);
    }
}
