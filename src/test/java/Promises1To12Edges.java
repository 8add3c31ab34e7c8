/** The sentences of promises 1 to 12, each with a test of its own. */
final class Promises1To12Edges {
    private static final Class<IllegalArgumentException> ARGUMENT = IllegalArgumentException.class;
    private static final Class<IllegalStateException> STATE = IllegalStateException.class;
    private static final Class<java.util.NoSuchElementException> ELEMENT = java.util.NoSuchElementException.class;
    private static final Class<IndexOutOfBoundsException> INDEX = IndexOutOfBoundsException.class;
    private static final String START = "24:2,13:5,8:3,6:5;24:2,13:5,8:3,6:5;";

    private Promises1To12Edges() {
    }

    static void all() {
        holds(1, "The STARTING POSITION, PLAYER 0's TURN;", Promises1To12Edges::theStart);
        holds(1, "no match (SCORES 0, the CUBE at 1), LEVEL 0, TAPE and PAGE empty, no RESULTS.",
                Promises1To12Edges::nothingYet);
        holds(2, "Twenty bytes come on the TAPE, of each number the highest first: how many there are;",
                Promises1To12Edges::twentyBytes);
        holds(2, "NONE, doing nothing, if there would be more than 400.", Promises1To12Edges::aFullTape);
        aPosition();
        menAndAsk();
        results();
        sayAndBack();
    }

    private static void aPosition() {
        holds(3, "The first n bytes of the TAPE are a POSITION: 0, and it is so, without RESULTS; or its FAULT.",
                Promises1To12Edges::theFirstBytes);
        holds(3, "The TAPE is empty then.", Promises1To12Edges::theTapeIsEmpty);
        holds(3, "IllegalArgumentException: n is not 0 to the TAPE's bytes;", Promises1To12Edges::positionOfTooMany);
        holds(3, "IllegalStateException: a match is under way (STATES 1 to 5; so below).",
                Promises1To12Edges::positionInAMatch);
        holds(4, "The place of the FAULT of the latest text;", Promises1To12Edges::theLatestFault);
        holds(4, "NONE without.", Promises1To12Edges::noFault);
    }

    private static void menAndAsk() {
        holds(5, "How many MEN a PLAYER has on its own 0 to 25.", Promises1To12Edges::menOnEach);
        holds(5, "IndexOutOfBoundsException: there is no such PLAYER, or POINT.", Promises1To12Edges::noSuchPlace);
        holds(6, "0 whose TURN it is, 1 PIPS of PLAYER 0 (the sum of POINT times MEN), 2 of PLAYER 1, "
                + "3 whether it is OVER (1, 0), 4 bytes of the TAPE, 5 of the PAGE, 6 RESULTS, 7 LEVEL.",
                Promises1To12Edges::asked);
        holds(6, "IllegalArgumentException: no such what.", Promises1To12Edges::noSuchAsk);
    }

    private static void results() {
        holds(7, "The RESULTS of the POSITION with dice a and b are worked out (others go): how many.",
                Promises1To12Edges::othersGo);
        holds(7, "IllegalArgumentException: they are not 1 to 6;", Promises1To12Edges::playsWithNoDice);
        holds(7, "IllegalStateException: a match is under way in another STATE than 3,",
                Promises1To12Edges::playsInAnotherState);
        holds(7, "or the dice are not those that are due there (in whatever order).", Promises1To12Edges::otherDice);
        holds(8, "Of RESULT i how many MEN a PLAYER has on its own 0 to 25.", Promises1To12Edges::menOfAResult);
        holds(8, "NoSuchElementException: there is no such RESULT;", Promises1To12Edges::noSuchResult);
        holds(8, "IndexOutOfBoundsException as men().", Promises1To12Edges::noSuchPlaceOfAResult);
        holds(9, "THE WAY of RESULT i: MOVE k (32 * from + to); NONE without one.", Promises1To12Edges::movesOfAWay);
        holds(9, "NoSuchElementException: there is no such RESULT.", Promises1To12Edges::noSuchWay);
        holds(10, "RESULT i becomes the POSITION: whose TURN it is then.", Promises1To12Edges::chosen);
        holds(10, "There are no RESULTS then.", Promises1To12Edges::noResultsBehindChoose);
        holds(10, "NoSuchElementException: there is no such one.", Promises1To12Edges::nothingToChoose);
    }

    private static void sayAndBack() {
        holds(11, "The first n bytes of the TAPE are MOVES for dice a and b: the number of their RESULT",
                Promises1To12Edges::saidNumbers);
        holds(11, "(RESULTS are worked out as by plays() if there was no FAULT 1, 2 or 7), or -1 less the FAULT.",
                Promises1To12Edges::saidFaults);
        holds(11, "The TAPE is empty then.", Promises1To12Edges::theTapeIsEmptyBehindSay);
        holds(11, "IllegalArgumentException: n likewise, or the dice;", Promises1To12Edges::sayOfTooMany);
        holds(11, "IllegalStateException as plays().", Promises1To12Edges::sayInAMatch);
        holds(12, "The latest POSITION ahead of position(), choose()", Promises1To12Edges::theLatestAhead);
        holds(12, "(outside of a match; of the latest 8)", Promises1To12Edges::theLatestEight);
        holds(12, "is there again, without RESULTS: true;", Promises1To12Edges::thereAgain);
        holds(12, "false without one, or while a match is under way.", Promises1To12Edges::noneToGoBackTo);
        holds(12, "(begin() forgets them.)", Promises1To12Edges::forgotten);
    }

    private static void holds(int promise, String sentence, Runnable test) {
        Sentences.holds("Promise " + promise, sentence, test);
    }

    private static void theStart() {
        BearHouse x = new BearHouse();
        Check.due("the POSITION", Show.board(x), START + 0);
        Check.due("none OFF", x.men(0, 0) + x.men(1, 0), 0);
        Check.due("the TURN", x.ask(0), 0);
        // One object is nothing to another.
        x.plays(3, 1);
        x.choose(0);
        x.begin(5);
        x.learn();
        Check.due("another object", Show.board(new BearHouse()), START + 0);
        Check.due("its LEVEL", new BearHouse().ask(7), 0);
        Check.due("its STATE", new BearHouse().match(0), 0);
    }

    private static void nothingYet() {
        BearHouse x = new BearHouse();
        Check.due("match()", Show.match(x), "0 0 0 1 -1 0 0 0 0 -1 0 0");
        Check.due("LEVEL", x.ask(7), 0);
        Check.due("the TAPE", x.ask(4), 0);
        Check.due("the PAGE", x.ask(5), 0);
        Check.due("octet(0)", x.octet(0), -1);
        Check.due("RESULTS", x.ask(6), 0);
        Check.due("fault()", x.fault(), -1);
        Check.due("back()", x.back() ? 1 : 0, 0);
        Check.refused(ELEMENT, "choose(0)", x, () -> x.choose(0));
        BearHouse y = new BearHouse();
        Check.refused(ARGUMENT, "position(1) of no TAPE", y, () -> y.position(1));
        Check.badState("rolls(1)", () -> y.rolls(1));
        Check.badState("roll(1, 2)", () -> y.roll(1, 2));
        Check.badState("offer()", y::offer);
    }

    private static void twentyBytes() {
        BearHouse x = new BearHouse();
        // "6:1;1:1;1" and blanks: each number's highest byte first, the numbers in their order.
        Check.due("feed", x.feed(0x363a313b, 0x313a313b, 0x31202020, 0x20202020, 0x20202020), 20);
        Check.due("position(20)", x.position(20), 0);
        Check.due("the POSITION", Show.board(x), "6:1;1:1;1");
        // Bytes over all five numbers, and over two feeds.
        Check.due("feed", x.feed(0x20202020, 0x20202020, 0x20202020, 0x20202031, 0x323a3135), 20);
        Check.due("feed", x.feed(0x3b31323a, 0x3134202c, 0x363a310a, 0x3b202020, 0x30202020), 40);
        Check.due("position(40)", x.position(40), 0);
        Check.due("the POSITION", Show.board(x), "12:15;12:14,6:1;0");
        // Every byte as it is, those above 127 too.
        for (int k = 0; k < 20; k++) {
            int[] five = new int[5];
            java.util.Arrays.fill(five, 0x20202020);
            five[k / 4] = five[k / 4] & ~(255 << 24 - 8 * (k % 4)) | 0x80 + k << 24 - 8 * (k % 4);
            x.feed(five[0], five[1], five[2], five[3], five[4]);
            Check.due("byte " + k + " of 20", x.position(20), 1);
            Check.due("its place", x.fault(), k);
        }
        Check.due("feed of the least and greatest numbers",
                x.feed(Integer.MIN_VALUE, Integer.MAX_VALUE, -1, 0, 1), 20);
        Check.due("ask(4)", x.ask(4), 20);
    }

    private static void aFullTape() {
        BearHouse x = new BearHouse();
        for (int k = 1; k <= 19; k++) {
            Check.due("feed " + k, x.feed(0x20202020, 0x20202020, 0x20202020, 0x20202020, 0x20202020), 20 * k);
        }
        Check.due("feed to 400", x.feed(0x20202020, 0x20202020, 0x2020363a, 0x313b313a, 0x313b3120), 400);
        Check.due("feed beyond", x.feed(0x78787878, 0x78787878, 0x78787878, 0x78787878, 0x78787878), -1);
        Check.due("once more", x.feed(0, 0, 0, 0, 0), -1);
        Check.due("ask(4)", x.ask(4), 400);
        Check.due("position(400) as it was", x.position(400), 0);
        Check.due("the POSITION", Show.board(x), "6:1;1:1;1");
        Check.due("room again", x.feed(0, 0, 0, 0, 0), 20);
    }

    private static void theFirstBytes() {
        BearHouse x = new BearHouse();
        x.plays(3, 1);
        Check.feed(x, "6:1;5:12;01");
        Check.due("position(10): what is behind does not count", x.position(10), 0);
        Check.due("the POSITION", Show.board(x), "6:1;5:12;0");
        Check.due("without RESULTS", x.ask(6), 0);
        Check.feed(x, "6:1;5:12;01");
        Check.due("position(11)", x.position(11), 0);
        Check.due("the POSITION", Show.board(x), "6:1;5:12;1");
        Check.feed(x, "6:1;5:12;01");
        Check.due("position(9), cut in front of the TURN", x.position(9), 1);
        Check.feed(x, "6:1;5:12;01");
        Check.due("position(0)", x.position(0), 1);
        Check.due("position(0) of an empty TAPE", x.position(0), 1);
        // With a FAULT the POSITION and the RESULTS stay.
        int count = x.plays(3, 2);
        String[] texts = {"x", "26:1;;0", "6:1,6:1;;0", "6:15,5:1;;0", "6:1;19:1;0", ";;0"};
        for (int k = 0; k < texts.length; k++) {
            Check.due("position " + texts[k], Check.position(x, texts[k]), k + 1);
            Check.due("RESULTS stay", x.ask(6), count);
        }
        Check.due("the POSITION stays", Show.board(x), "6:1;5:12;1");
    }

    private static void theTapeIsEmpty() {
        BearHouse x = new BearHouse();
        Check.due("a good one", Check.position(x, "6:1;;0"), 0);
        Check.due("ask(4)", x.ask(4), 0);
        Check.due("a bad one", Check.position(x, "6:1;;2"), 2);
        Check.due("ask(4)", x.ask(4), 0);
        Check.feed(x, "6:1;;0");
        Check.due("position(3)", x.position(3), 1);
        Check.due("what is behind n goes too", x.ask(4), 0);
        Check.feed(x, "6:1;;0");
        x.position(0);
        Check.due("behind position(0)", x.ask(4), 0);
        Check.badArgument("position(1) then", () -> x.position(1));
    }

    private static void positionOfTooMany() {
        BearHouse x = new BearHouse();
        Check.badArgument("position(1) of an empty TAPE", () -> x.position(1));
        Check.badArgument("position(-1) of an empty TAPE", () -> x.position(-1));
        Check.feed(x, "6:1;;0");
        Check.refused(ARGUMENT, "position(21) of 20", x, () -> x.position(21));
        Check.badArgument("position(-1) of 20", () -> x.position(-1));
        for (int n : Show.FAR) {
            Check.badArgument("position(" + n + ")", () -> x.position(n));
        }
        Check.due("position(20) of 20", x.position(20), 0);
        Check.due("back() has one to go to", x.back() ? 1 : 0, 1);
        Check.due("and no more", x.back() ? 1 : 0, 0);
        BearHouse y = new BearHouse();
        Check.feed(y, " ".repeat(400));
        Check.badArgument("position(401) of 400", () -> y.position(401));
        Check.due("position(400) of 400", y.position(400), 1);
    }

    private static void positionInAMatch() {
        for (int state = 0; state <= 6; state++) {
            BearHouse x = Show.inState(state);
            Check.feed(x, "6:1;;0");
            if (state == 0 || state == 6) {
                Check.due("position(6) in STATE " + state, x.position(6), 0);
                Check.due("the STATE stays", x.match(0), state);
            } else {
                Check.refused(STATE, "position(6) in STATE " + state, x, () -> x.position(6));
                Check.badState("position(0) in STATE " + state, () -> x.position(0));
                Check.badArgument("position(21) in STATE " + state, () -> x.position(21));
            }
        }
    }

    private static void theLatestFault() {
        BearHouse x = new BearHouse();
        Check.position(x, "6:1;;2");
        Check.due("fault()", x.fault(), 5);
        Check.due("fault() again", x.fault(), 5);
        Check.position(x, "66");
        Check.due("fault() at the first byte", x.fault(), 0);
        Check.say(x, "8/5 6", 3, 1);
        Check.due("fault() of MOVES", x.fault(), 5);
        Check.say(x, "8/5", 3, 1);
        Check.due("fault() of no PLAY", x.fault(), 3);
        // What is no text leaves it: a refused one, too.
        Check.badArgument("position(99)", () -> x.position(99));
        Check.badArgument("say(0, 0, 0)", () -> x.say(0, 0, 0));
        x.plays(3, 1);
        x.choose(0);
        x.begin(3);
        Check.badState("position(0)", () -> x.position(0));
        Check.badState("say(0, 3, 1)", () -> x.say(0, 3, 1));
        Check.due("fault()", x.fault(), 3);
    }

    private static void noFault() {
        BearHouse x = new BearHouse();
        Check.due("fault() ahead of any text", x.fault(), -1);
        Check.position(x, "6:1;;2");
        Check.due("fault()", x.fault(), 5);
        Check.position(x, "8:3,6:5;12:1;0");
        Check.due("fault() of a good POSITION", x.fault(), -1);
        Check.say(x, "8/5", 3, 1);
        Check.due("fault()", x.fault(), 3);
        Check.say(x, "8/5 6/5", 3, 1);
        Check.due("fault() of good MOVES", x.fault(), -1);
    }

    private static void menOnEach() {
        for (int point = 1; point <= 25; point++) {
            BearHouse x = Show.at(point + ":15;" + (point == 25 ? 1 : point) + ":1;0");
            for (int other = 0; other <= 25; other++) {
                Check.due("men(0, " + other + ") with all on " + point, x.men(0, other), other == point ? 15 : 0);
            }
            Check.due("men(1, 0)", x.men(1, 0), 14);
        }
        BearHouse x = Show.at(";25:1;0");
        Check.due("men(0, 0), all", x.men(0, 0), 15);
        Check.due("men(0, 25)", x.men(0, 25), 0);
        Check.due("men(1, 25)", x.men(1, 25), 1);
    }

    private static void noSuchPlace() {
        BearHouse x = new BearHouse();
        for (int far : Show.FAR) {
            Check.noIndex("men(" + far + ", 1)", () -> x.men(far, 1));
            Check.noIndex("men(0, " + far + ")", () -> x.men(0, far));
            Check.noIndex("men(1, " + far + ")", () -> x.men(1, far));
        }
        Check.noIndex("men(-1, 0)", () -> x.men(-1, 0));
        Check.noIndex("men(-1, 25)", () -> x.men(-1, 25));
        Check.noIndex("men(2, 0)", () -> x.men(2, 0));
        Check.noIndex("men(2, 25)", () -> x.men(2, 25));
        Check.noIndex("men(0, -1)", () -> x.men(0, -1));
        Check.noIndex("men(0, 26)", () -> x.men(0, 26));
        Check.noIndex("men(1, -1)", () -> x.men(1, -1));
        Check.noIndex("men(1, 26)", () -> x.men(1, 26));
        Check.refused(INDEX, "men(2, 26)", x, () -> x.men(2, 26));
        Check.due("men(0, 0)", x.men(0, 0), 0);
        Check.due("men(1, 25)", x.men(1, 25), 0);
        Check.due("men(1, 24)", x.men(1, 24), 2);
    }

    private static void asked() {
        BearHouse x = new BearHouse();
        int[] fresh = {0, 167, 167, 0, 0, 0, 0, 0};
        for (int what = 0; what <= 7; what++) {
            Check.due("ask(" + what + ") at first", x.ask(what), fresh[what]);
        }
        Check.position(x, "25:15;1:1;1");
        x.feed(0, 0, 0, 0, 0);
        x.plays(2, 1);
        x.learn();
        x.rolls(1);
        int[] then = {1, 375, 1, 0, 20, 1, 1, 1};
        for (int what = 0; what <= 7; what++) {
            Check.due("ask(" + what + ") then", x.ask(what), then[what]);
        }
        x.choose(0);
        int[] over = {0, 375, 0, 1, 20, 1, 0, 1};
        for (int what = 0; what <= 7; what++) {
            Check.due("ask(" + what + ") when it is OVER", x.ask(what), over[what]);
        }
        Check.due("PIPS of 15 on the BAR", Show.at("1:1;25:15;0").ask(2), 375);
        Check.due("PIPS with all OFF", Show.at(";25:15;0").ask(1), 0);
        Check.due("PIPS of a few", Show.at("24:1,2:3;25:2,7:1;0").ask(1), 30);
    }

    private static void noSuchAsk() {
        BearHouse x = new BearHouse();
        for (int far : Show.FAR) {
            Check.badArgument("ask(" + far + ")", () -> x.ask(far));
        }
        Check.refused(ARGUMENT, "ask(-1)", x, () -> x.ask(-1));
        Check.refused(ARGUMENT, "ask(8)", x, () -> x.ask(8));
        Check.due("ask(7)", x.ask(7), 0);
    }

    private static void othersGo() {
        BearHouse x = new BearHouse();
        Check.due("plays(3, 1)", x.plays(3, 1), 16);
        Check.due("ask(6)", x.ask(6), 16);
        Check.due("the POSITION stays", Show.board(x), START + 0);
        Check.position(x, "25:1,6:1;1:2;0");
        Check.due("plays(1, 2)", x.plays(1, 2), 2);
        Check.due("plays(1, 1): none can move", x.plays(1, 1), 1);
        Check.due("ask(6)", x.ask(6), 1);
        Check.due("way(0, 0)", x.way(0, 0), -1);
        Check.noElement("way(1, 0)", () -> x.way(1, 0));
        Check.due("plays(2, 1)", x.plays(2, 1), 2);
        Check.due("way(0, 0)", x.way(0, 0), 823);
        // As many as single MEN and alike dice can come to, then few again.
        Check.position(x, "24:1,23:1,22:1,21:1,20:1,19:1,18:1,17:1,16:1,15:1,14:1,13:1,12:1,11:1,10:1;25:1;0");
        Check.due("plays(1, 1) of 15 single MEN", x.plays(1, 1), fourStepsOfFifteen());
        Check.due("ask(6)", x.ask(6), fourStepsOfFifteen());
        Check.due("the last one's WAY is there", x.way(x.ask(6) - 1, 3) > 0 ? 1 : 0, 1);
        Check.position(x, "6:1;25:1;0");
        Check.due("plays(6, 6)", x.plays(6, 6), 1);
        Check.due("way(0, 0)", x.way(0, 0), 192);
    }

    /** How many rows of MEN on 24 to 1 come of MEN on 24 to 10, one each, by four steps of 1 in all. */
    private static int fourStepsOfFifteen() {
        java.util.Set<String> seen = new java.util.HashSet<>();
        int[] men = new int[25];
        for (int point = 10; point <= 24; point++) {
            men[point] = 1;
        }
        step(men, 4, seen);
        return seen.size();
    }

    private static void step(int[] men, int left, java.util.Set<String> seen) {
        if (left == 0) {
            seen.add(java.util.Arrays.toString(men));
            return;
        }
        for (int point = 2; point <= 24; point++) {
            if (men[point] > 0) {
                men[point]--;
                men[point - 1]++;
                step(men, left - 1, seen);
                men[point]++;
                men[point - 1]--;
            }
        }
    }

    private static void playsWithNoDice() {
        BearHouse x = new BearHouse();
        x.plays(3, 1);
        for (int far : Show.FAR) {
            Check.badArgument("plays(" + far + ", 1)", () -> x.plays(far, 1));
            Check.badArgument("plays(1, " + far + ")", () -> x.plays(1, far));
        }
        Check.badArgument("plays(0, 6)", () -> x.plays(0, 6));
        Check.badArgument("plays(6, 0)", () -> x.plays(6, 0));
        Check.badArgument("plays(7, 1)", () -> x.plays(7, 1));
        Check.badArgument("plays(1, 7)", () -> x.plays(1, 7));
        Check.badArgument("plays(-1, 1)", () -> x.plays(-1, 1));
        Check.refused(ARGUMENT, "plays(0, 0)", x, () -> x.plays(0, 0));
        Check.due("RESULTS stay", x.ask(6), 16);
        Check.due("plays(6, 1)", Math.min(x.plays(6, 1), 2), 2);
        Check.due("plays(1, 6)", Math.min(x.plays(1, 6), 2), 2);
        for (int state = 1; state <= 5; state++) {
            BearHouse y = Show.inState(state);
            Check.badArgument("plays(7, 7) in STATE " + state, () -> y.plays(7, 7));
        }
    }

    private static void playsInAnotherState() {
        for (int state = 0; state <= 6; state++) {
            BearHouse x = Show.inState(state);
            if (state == 0 || state == 3 || state == 6) {
                Check.due("plays(3, 1) in STATE " + state, Math.min(x.plays(3, 1), 2), 2);
            } else {
                Check.refused(STATE, "plays(3, 1) in STATE " + state, x, () -> x.plays(3, 1));
            }
        }
        // Outside of a match, whatever dice.
        BearHouse x = Show.inState(6);
        Check.due("plays(6, 6) in STATE 6", Math.min(x.plays(6, 6), 1), 1);
        Check.due("plays(5, 4) in STATE 6", Math.min(x.plays(5, 4), 1), 1);
    }

    private static void otherDice() {
        for (int a = 1; a <= 6; a++) {
            for (int b = 1; b <= 6; b++) {
                int first = a;
                int second = b;
                BearHouse x = Show.inState(3);
                if (a + b == 4 && a != b) {
                    Check.due("plays(" + a + ", " + b + ")", x.plays(a, b), 16);
                } else {
                    Check.badState("plays(" + a + ", " + b + ")", () -> x.plays(first, second));
                }
            }
        }
        BearHouse x = Show.inState(3);
        x.plays(3, 1);
        Check.refused(STATE, "plays(3, 3)", x, () -> x.plays(3, 3));
        Check.due("RESULTS stay", x.ask(6), 16);
        BearHouse y = Show.inState(2);
        y.roll(4, 4);
        Check.badState("plays(4, 3)", () -> y.plays(4, 3));
        Check.badState("plays(4, 2) when 4, 4 is due", () -> y.plays(4, 2));
        Check.due("plays(4, 4)", Math.min(y.plays(4, 4), 2), 2);
    }

    private static void menOfAResult() {
        BearHouse x = Show.at("25:1,6:1;1:2,20:1;0");
        x.plays(1, 2);
        Check.due("RESULT 0", Show.result(x, 0), "23:1,5:1;25:1,1:2;");
        Check.due("RESULT 1", Show.result(x, 1), "22:1,6:1;20:1,1:2;");
        Check.due("OFF of 0", x.result(0, 0, 0), 13);
        Check.due("OFF of 1", x.result(1, 1, 0), 12);
        Check.due("BAR of 0", x.result(0, 0, 25), 0);
        Check.due("BAR of 1", x.result(0, 1, 25), 1);
        BearHouse y = Show.at("25:1;25:15;1");
        y.plays(6, 6);
        Check.due("RESULT 0 of PLAYER 1", Show.result(y, 0), "25:1;25:11,19:4;");
        // The POSITION is not the RESULT yet.
        Check.due("the POSITION", Show.board(y), "25:1;25:15;1");
        // Numbers up to 15 on the outermost places.
        for (int point : new int[] {1, 12, 13, 24, 25}) {
            BearHouse z = Show.at("25:1;" + point + ":15;0");
            z.plays(6, 5);
            Check.due("15 on " + point, z.result(0, 1, point), 15);
        }
        BearHouse z = Show.at("1:2;25:1;0");
        z.plays(6, 5);
        Check.due("15 OFF", z.result(0, 0, 0), 15);
    }

    private static void noSuchResult() {
        BearHouse x = new BearHouse();
        Check.noElement("result(0, 0, 0) without any", () -> x.result(0, 0, 0));
        Check.noElement("result(-1, 0, 0) without any", () -> x.result(-1, 0, 0));
        x.plays(3, 1);
        for (int far : Show.FAR) {
            Check.noElement("result(" + far + ", 0, 0)", () -> x.result(far, 0, 0));
        }
        Check.noElement("result(-1, 0, 0)", () -> x.result(-1, 0, 0));
        Check.noElement("result(16, 0, 0) of 16", () -> x.result(16, 0, 0));
        Check.noElement("result(16, 2, 26) of 16", () -> x.result(16, 2, 26));
        Check.refused(ELEMENT, "result(16, 0, 24) of 16", x, () -> x.result(16, 0, 24));
        Check.due("result(15, 1, 24) of 16", x.result(15, 1, 24), 2);
        Check.position(x, "25:1,6:1;1:2;0");
        x.plays(1, 2);
        Check.due("result(1, 0, 0) of 2", x.result(1, 0, 0), 13);
        Check.noElement("result(2, 0, 0) of 2, 16 ahead", () -> x.result(2, 0, 0));
    }

    private static void noSuchPlaceOfAResult() {
        BearHouse x = new BearHouse();
        x.plays(3, 1);
        for (int far : Show.FAR) {
            Check.noIndex("result(0, " + far + ", 1)", () -> x.result(0, far, 1));
            Check.noIndex("result(0, 0, " + far + ")", () -> x.result(0, 0, far));
            Check.noIndex("result(15, 1, " + far + ")", () -> x.result(15, 1, far));
        }
        Check.noIndex("result(0, -1, 0)", () -> x.result(0, -1, 0));
        Check.noIndex("result(0, 2, 0)", () -> x.result(0, 2, 0));
        Check.noIndex("result(0, 0, -1)", () -> x.result(0, 0, -1));
        Check.noIndex("result(0, 0, 26)", () -> x.result(0, 0, 26));
        Check.noIndex("result(0, 1, -1)", () -> x.result(0, 1, -1));
        Check.noIndex("result(0, 1, 26)", () -> x.result(0, 1, 26));
        Check.due("result(0, 1, 25)", x.result(0, 1, 25), 0);
        Check.due("result(0, 0, 0)", x.result(0, 0, 0), 0);
    }

    private static void movesOfAWay() {
        BearHouse x = new BearHouse();
        x.plays(3, 1);
        Check.due("way(0, 0): 6/5", x.way(0, 0), 197);
        Check.due("way(0, 1): 5/2", x.way(0, 1), 162);
        for (int k : new int[] {-1, 2, 3, 4, 5}) {
            Check.due("way(0, " + k + ") of two", x.way(0, k), -1);
        }
        for (int far : Show.FAR) {
            Check.due("way(0, " + far + ")", x.way(0, far), -1);
        }
        Check.position(x, "25:4;12:1;0");
        x.plays(1, 1);
        for (int k = 0; k < 4; k++) {
            Check.due("way(0, " + k + ") of four", x.way(0, k), 824);
        }
        Check.due("way(0, 4) of four", x.way(0, 4), -1);
        Check.due("way(0, -1) of four", x.way(0, -1), -1);
        Check.position(x, "1:1;12:1;0");
        x.plays(1, 1);
        Check.due("way(0, 0): 1/off", x.way(0, 0), 32);
        Check.due("way(0, 1) of one", x.way(0, 1), -1);
        Check.position(x, "1:1;;0");
        x.plays(1, 1);
        Check.due("way(0, 0) of none", x.way(0, 0), -1);
    }

    private static void noSuchWay() {
        BearHouse x = new BearHouse();
        Check.noElement("way(0, 0) without any", () -> x.way(0, 0));
        Check.noElement("way(0, -1) without any", () -> x.way(0, -1));
        x.plays(3, 1);
        for (int far : Show.FAR) {
            Check.noElement("way(" + far + ", 0)", () -> x.way(far, 0));
        }
        Check.noElement("way(-1, 0)", () -> x.way(-1, 0));
        Check.noElement("way(16, 0) of 16", () -> x.way(16, 0));
        Check.noElement("way(16, 9) of 16", () -> x.way(16, 9));
        Check.refused(ELEMENT, "way(16, -1) of 16", x, () -> x.way(16, -1));
        Check.due("way(15, 0) of 16", x.way(15, 0) > 0 ? 1 : 0, 1);
    }

    private static void chosen() {
        for (int i : new int[] {0, 7, 15}) {
            BearHouse x = new BearHouse();
            x.plays(3, 1);
            String want = Show.result(x, i);
            Check.due("choose(" + i + ")", x.choose(i), 1);
            Check.due("the POSITION", Show.board(x), want + 1);
        }
        BearHouse y = Show.at("1:1;1:2;1");
        y.plays(6, 5);
        Check.due("choose(0) by PLAYER 1", y.choose(0), 0);
        Check.due("OVER", y.ask(3), 1);
        // Who has all OFF wins nothing outside of a match.
        Check.due("no match", Show.match(y), "0 0 0 1 -1 0 0 0 0 -1 0 0");
        y.plays(6, 5);
        Check.due("choose(0) when it is OVER", y.choose(0), 1);
        Check.due("the POSITION", Show.board(y), "1:1;;1");
    }

    private static void noResultsBehindChoose() {
        BearHouse x = new BearHouse();
        x.plays(3, 1);
        x.choose(15);
        Check.due("ask(6)", x.ask(6), 0);
        Check.noElement("choose(0)", () -> x.choose(0));
        Check.noElement("result(0, 0, 0)", () -> x.result(0, 0, 0));
        Check.noElement("way(0, 0)", () -> x.way(0, 0));
        BearHouse y = Show.inState(3);
        y.plays(3, 1);
        y.choose(0);
        Check.due("ask(6) in a match", y.ask(6), 0);
        Check.noElement("choose(0) in STATE 2", () -> y.choose(0));
    }

    private static void nothingToChoose() {
        BearHouse x = new BearHouse();
        Check.refused(ELEMENT, "choose(0) without any", x, () -> x.choose(0));
        x.plays(3, 1);
        for (int far : Show.FAR) {
            Check.noElement("choose(" + far + ")", () -> x.choose(far));
        }
        Check.noElement("choose(-1)", () -> x.choose(-1));
        Check.refused(ELEMENT, "choose(16) of 16", x, () -> x.choose(16));
        Check.due("no POSITION to go back to", x.back() ? 1 : 0, 0);
        Check.due("choose(15) of 16", x.choose(15), 1);
        // In a match there is none ahead of plays().
        for (int state = 1; state <= 5; state++) {
            BearHouse y = Show.inState(state);
            Check.refused(ELEMENT, "choose(0) in STATE " + state, y, () -> y.choose(0));
        }
    }

    private static void saidNumbers() {
        BearHouse x = new BearHouse();
        Check.due("8/5 6/5", Check.say(x, "8/5 6/5", 3, 1), 4);
        Check.due("the same in another order", Check.say(x, "6/5 8/5", 1, 3), 4);
        Check.due("the first one", Check.say(x, "6/5/2", 3, 1), 0);
        Check.due("RESULTS", x.ask(6), 16);
        Check.due("the last one: none is left on 24", Check.say(x, "24/21 24/23", 3, 1), 15);
        Check.feed(x, "8/5 6/51");
        Check.due("say(7, 3, 1): what is behind does not count", x.say(7, 3, 1), 4);
        Check.feed(x, "8/5 6/51");
        Check.due("say(3, 3, 1)", x.say(3, 3, 1), -4);
        Check.due("say(0, 3, 1) of no text", x.say(0, 3, 1), -2);
        Check.due("the POSITION stays", Show.board(x), START + 0);
        Check.due("choose(4)", x.choose(4), 1);
        Check.due("the other one says", Check.say(x, "8/5 6/5", 3, 1) >= 0 ? 1 : 0, 1);
    }

    private static void saidFaults() {
        String[] texts = {"8", "25/1", "8/7(4) 6/5(4) 3/2"};
        int[] faults = {1, 2, 7};
        for (int k = 0; k < 3; k++) {
            BearHouse x = new BearHouse();
            Check.due("say " + texts[k], Check.say(x, texts[k], 3, 1), -1 - faults[k]);
            Check.due("no RESULTS", x.ask(6), 0);
            int before = x.plays(6, 4);
            Check.due("say " + texts[k], Check.say(x, texts[k], 3, 1), -1 - faults[k]);
            Check.due("RESULTS stay", x.ask(6), before);
        }
        BearHouse x = new BearHouse();
        Check.due("no PLAY", Check.say(x, "8/5", 3, 1), -4);
        Check.due("RESULTS", x.ask(6), 16);
        x.plays(6, 4);
        Check.due("a * is wrong", Check.say(x, "8/5* 6/5", 3, 1), -5);
        Check.due("RESULTS of these dice", x.ask(6), 16);
        x.plays(6, 4);
        Check.due("good", Check.say(x, "8/5 6/5", 3, 1), 4);
        Check.due("RESULTS of these dice", x.ask(6), 16);
        Check.due("way(4, 0)", x.way(4, 0), 261);
        Check.due("the POSITION stays", Show.board(x), START + 0);
        BearHouse y = Show.inState(3);
        Check.due("no PLAY in a match", Check.say(y, "8/5", 1, 3), -4);
        Check.due("choose(15)", y.choose(15), 1);
    }

    private static void theTapeIsEmptyBehindSay() {
        BearHouse x = new BearHouse();
        for (String text : new String[] {"8/5 6/5", "8/5", "8/5* 6/5", "8", "25/1", "8/7(4) 6/5(4) 3/2"}) {
            Check.say(x, text, 3, 1);
            Check.due("ask(4) behind " + text, x.ask(4), 0);
        }
        Check.feed(x, "8/5 6/5");
        x.say(0, 3, 1);
        Check.due("ask(4) behind say(0, 3, 1)", x.ask(4), 0);
    }

    private static void sayOfTooMany() {
        BearHouse x = new BearHouse();
        Check.badArgument("say(1, 3, 1) of an empty TAPE", () -> x.say(1, 3, 1));
        Check.feed(x, "8/5 6/5");
        for (int far : Show.FAR) {
            Check.badArgument("say(" + far + ", 3, 1)", () -> x.say(far, 3, 1));
            Check.badArgument("say(7, " + far + ", 1)", () -> x.say(7, far, 1));
            Check.badArgument("say(7, 3, " + far + ")", () -> x.say(7, 3, far));
        }
        Check.badArgument("say(-1, 3, 1)", () -> x.say(-1, 3, 1));
        Check.badArgument("say(7, 0, 1)", () -> x.say(7, 0, 1));
        Check.badArgument("say(7, 3, 0)", () -> x.say(7, 3, 0));
        Check.badArgument("say(7, 7, 1)", () -> x.say(7, 7, 1));
        Check.badArgument("say(7, 3, 7)", () -> x.say(7, 3, 7));
        Check.refused(ARGUMENT, "say(21, 3, 1) of 20", x, () -> x.say(21, 3, 1));
        Check.due("say(20, 3, 1) of 20", x.say(20, 3, 1), 4);
        for (int state = 1; state <= 5; state++) {
            BearHouse y = Show.inState(state);
            Check.badArgument("say(1, 3, 1) of no TAPE in STATE " + state, () -> y.say(1, 3, 1));
            Check.badArgument("say(0, 3, 7) in STATE " + state, () -> y.say(0, 3, 7));
        }
    }

    private static void sayInAMatch() {
        for (int state = 0; state <= 6; state++) {
            BearHouse x = Show.inState(state);
            Check.feed(x, "8/5 6/5");
            if (state == 0 || state == 3 || state == 6) {
                Check.due("say(7, 3, 1) in STATE " + state, Math.min(x.say(7, 3, 1), 0), 0);
            } else {
                Check.refused(STATE, "say(7, 3, 1) in STATE " + state, x, () -> x.say(7, 3, 1));
            }
        }
        BearHouse x = Show.inState(3);
        Check.feed(x, "8/5 6/5");
        Check.badState("say(7, 3, 3)", () -> x.say(7, 3, 3));
        Check.badState("say(7, 1, 1)", () -> x.say(7, 1, 1));
        Check.refused(STATE, "say(7, 3, 2)", x, () -> x.say(7, 3, 2));
        Check.due("say(7, 1, 3)", x.say(7, 1, 3), 4);
    }

    private static void theLatestAhead() {
        BearHouse x = new BearHouse();
        Check.position(x, "6:1;5:1;1");
        x.plays(2, 1);
        x.choose(0);
        String last = Show.board(x);
        Check.position(x, "1:1;1:1;0");
        Check.due("back() of position()", x.back() ? 1 : 0, 1);
        Check.due("the POSITION", Show.board(x), last);
        Check.due("back() of choose()", x.back() ? 1 : 0, 1);
        Check.due("the POSITION", Show.board(x), "6:1;5:1;1");
        Check.due("back() of the first position()", x.back() ? 1 : 0, 1);
        Check.due("the POSITION", Show.board(x), START + 0);
        Check.due("back() without one", x.back() ? 1 : 0, 0);
        // A text with a FAULT, MOVES and refused calls leave none behind.
        Check.position(x, "6:1;;2");
        Check.say(x, "8/5 6/5", 3, 1);
        Check.noElement("choose(99)", () -> x.choose(99));
        Check.badArgument("position(1)", () -> x.position(1));
        Check.due("back() behind these", x.back() ? 1 : 0, 0);
    }

    private static void theLatestEight() {
        BearHouse x = new BearHouse();
        for (int point = 1; point <= 20; point++) {
            Check.position(x, point + ":1;;" + point % 2);
        }
        for (int point = 19; point >= 12; point--) {
            Check.due("back() to " + point, x.back() ? 1 : 0, 1);
            Check.due("PIPS", x.ask(1), point);
            Check.due("TURN", x.ask(0), point % 2);
        }
        Check.due("a ninth", x.back() ? 1 : 0, 0);
        Check.due("PIPS stay", x.ask(1), 12);
        Check.position(x, "7:1;;0");
        Check.due("back() of one more", x.back() ? 1 : 0, 1);
        Check.due("PIPS", x.ask(1), 12);
        Check.due("nothing of the eight is left", x.back() ? 1 : 0, 0);
        // Just eight, and going back makes room.
        BearHouse y = new BearHouse();
        for (int point = 1; point <= 8; point++) {
            Check.position(y, point + ":1;;0");
        }
        for (int k = 0; k < 3; k++) {
            Check.due("back()", y.back() ? 1 : 0, 1);
        }
        for (int point = 21; point <= 23; point++) {
            Check.position(y, point + ":1;;0");
        }
        int[] due = {22, 21, 5, 4, 3, 2, 1, 167};
        for (int pips : due) {
            Check.due("back() to " + pips, y.back() ? 1 : 0, 1);
            Check.due("PIPS", y.ask(1), pips);
        }
        Check.due("a ninth", y.back() ? 1 : 0, 0);
        // What is chosen in a match is not among them; behind the match it is.
        BearHouse z = Show.inState(6);
        Check.due("back() in STATE 6", z.back() ? 1 : 0, 0);
        String board = Show.board(z);
        z.plays(2, 1);
        z.choose(0);
        Check.due("back() of choose() in STATE 6", z.back() ? 1 : 0, 1);
        Check.due("the POSITION", Show.board(z), board);
        Check.due("no more of them", z.back() ? 1 : 0, 0);
    }

    private static void thereAgain() {
        BearHouse x = new BearHouse();
        Check.position(x, "25:2,6:3;24:1,12:2;1");
        Check.position(x, "6:1;;0");
        x.plays(6, 5);
        Check.due("RESULTS", x.ask(6), 1);
        Check.due("back()", x.back() ? 1 : 0, 1);
        Check.due("the POSITION", Show.board(x), "25:2,6:3;24:1,12:2;1");
        Check.due("OFF", x.men(0, 0) * 100 + x.men(1, 0), 1012);
        Check.due("without RESULTS", x.ask(6), 0);
        Check.noElement("choose(0)", () -> x.choose(0));
        Check.due("it can be played", Math.min(x.plays(2, 1), 1), 1);
    }

    private static void noneToGoBackTo() {
        BearHouse x = new BearHouse();
        Check.due("back() at first", x.back() ? 1 : 0, 0);
        x.plays(3, 1);
        String before = Show.all(x);
        Check.due("back() without one", x.back() ? 1 : 0, 0);
        Check.due("nothing is another", Show.all(x), before);
        for (int state = 1; state <= 5; state++) {
            BearHouse y = Show.inState(state);
            if (state == 3) {
                y.plays(3, 1);
            }
            String seen = Show.all(y);
            Check.due("back() in STATE " + state, y.back() ? 1 : 0, 0);
            Check.due("nothing is another in STATE " + state, Show.all(y), seen);
        }
    }

    private static void forgotten() {
        BearHouse x = new BearHouse();
        Check.position(x, "6:1;;0");
        Check.position(x, "5:1;;0");
        x.begin(1);
        Check.due("back() in the match", x.back() ? 1 : 0, 0);
        Show.winByPass(x, 0);
        Check.due("STATE", x.match(0), 6);
        Check.due("back() behind it", x.back() ? 1 : 0, 0);
        // A begin() that is refused forgets none.
        BearHouse y = new BearHouse();
        Check.position(y, "6:1;;0");
        Check.badArgument("begin(26)", () -> {
            y.begin(26);
            return 0;
        });
        Check.due("back()", y.back() ? 1 : 0, 1);
        Check.due("the POSITION", Show.board(y), START + 0);
    }
}
