/** Promises 3, 4, 11: the grammar of the texts, their FAULTS and the FAULTS' places. */
public final class TextTest {
    public static void main(String[] args) {
        goodPositions();
        badPositions();
        whatAFaultLeaves();
        badMoves();
        goodMoves();
        movesAndResults();
        Check.finish("TextTest");
    }

    private static void good(String text) {
        BearHouse x = new BearHouse();
        Check.due("position \"" + text + "\"", Check.position(x, text), 0);
        Check.due("fault() of \"" + text + "\"", x.fault(), -1);
    }

    private static void bad(String text, int fault, int place) {
        BearHouse x = new BearHouse();
        Check.due("position \"" + text + "\"", Check.position(x, text), fault);
        Check.due("fault() of \"" + text + "\"", x.fault(), place);
        Check.due("ask(4) behind \"" + text + "\"", x.ask(4), 0);
        Check.due("ask(1) behind \"" + text + "\"", x.ask(1), 167);
    }

    private static void goodPositions() {
        good("6:1;;0");
        good(";1:15;1");
        good("  6 :\n1 ; ; 01\n");
        good("06:01;;00");
        good("25:15;25:15;0");
        good("25:1,1:14;25:1,23:14;0");
        good("1:1,2:1,3:1,4:1,5:1,6:1,7:1,8:1,9:1,10:1,11:1,12:1,13:1,14:1,15:1;1:1;1");
        BearHouse x = new BearHouse();
        Check.due("position of 400 bytes", Check.position(x, "6:1;" + " ".repeat(393) + "5:2"), 1);
        Check.due("fault() at its end", x.fault(), 400);
        Check.due("position of 400 bytes", Check.position(x, " ".repeat(393) + "6:1;\n;1"), 0);
        Check.due("ask(0)", x.ask(0), 1);
    }

    private static void badPositions() {
        bad("", 1, 0);
        bad("   ", 1, 3);
        bad("6", 1, 1);
        bad("6 ", 1, 2);
        bad("6:", 1, 2);
        bad("6:1", 1, 3);
        bad("6:1;", 1, 4);
        bad("6:1;;", 1, 5);
        bad("6:1;;0 0", 1, 7);
        bad("6:1;;0;", 1, 6);
        bad("6:1,;;0", 1, 4);
        bad(",6:1;;0", 1, 0);
        bad("6:1 5:1;;0", 1, 4);
        bad("6;1;;0", 1, 1);
        bad("a:1;;0", 1, 0);
        bad("6:a;;0", 1, 2);
        bad("6:1;;a", 1, 5);
        bad("6A:1;;0", 1, 1);
        bad("6\t:1;;0", 1, 1);
        bad("6\u007f:1;;0", 1, 1);
        bad("6:1;;0\u0080", 1, 6);
        bad("6:1;;0\r", 1, 6);
        bad("bar:1;;0", 1, 0);
        bad("0:1;;0", 2, 0);
        bad("26:1;;0", 2, 0);
        bad("006:1;;0", 2, 0);
        bad("99999999999999999999:1;;0", 2, 0);
        bad("6:0;;0", 2, 2);
        bad("6:16;;0", 2, 2);
        bad("6:001;;0", 2, 2);
        bad("6:1;;2", 2, 5);
        bad("6:1;;000", 2, 5);
        bad("6:1;;4294967297", 2, 5);
        bad("6:1, 6:1;;0", 3, 5);
        bad("6:1,06", 3, 4);
        bad(";6:1,25:1,6:1;0", 3, 10);
        bad("6:15,5:1;;0", 4, 7);
        bad("6:8,5:8;;0", 4, 6);
        bad(";25:15,5:1;0", 4, 9);
        bad("6:1;19:1;0", 5, 4);
        bad("6:1;1:1,19", 5, 8);
        bad("24:1;1:15;0", 5, 5);
        bad("1:1;24:15;0", 5, 4);
        bad(";;0", 6, 2);
        bad(";;1", 6, 2);
        bad(";;0 junk", 6, 2);
        bad(";;2", 2, 2);
        bad(";;", 1, 2);
        // 1 and 2 are asked ahead of the others, and all of a token ahead of the next one.
        bad("6:1,6:16;;0", 3, 4);
        bad("6:15,5:16;;0", 2, 7);
        bad("6:15,5:1x", 4, 7);
        bad("6:1;19x", 5, 4);
        bad("26x", 2, 0);
    }

    private static void whatAFaultLeaves() {
        BearHouse x = new BearHouse();
        x.plays(3, 1);
        Check.due("position with a FAULT", Check.position(x, "6:1"), 1);
        Check.due("ask(6)", x.ask(6), 16);
        Check.due("back()", x.back() ? 1 : 0, 0);
        Check.due("position", Check.position(x, "6:1;;0"), 0);
        Check.due("ask(6)", x.ask(6), 0);
        Check.due("fault()", x.fault(), -1);
        Check.feed(x, "6:1;;0;");
        Check.due("position(6) of a longer tape", x.position(6), 0);
        Check.due("ask(4)", x.ask(4), 0);
    }

    private static void badMove(String text, int a, int b, int fault, int place) {
        BearHouse x = new BearHouse();
        Check.due("say \"" + text + "\"", Check.say(x, text, a, b), -1 - fault);
        Check.due("fault() of \"" + text + "\"", x.fault(), place);
        Check.due("ask(4)", x.ask(4), 0);
        boolean workedOut = fault == 3 || fault == 4;
        Check.due("results of \"" + text + "\"", x.ask(6) > 0 ? 1 : 0, workedOut ? 1 : 0);
    }

    private static void badMoves() {
        badMove("", 3, 1, 1, 0);
        badMove(" ", 3, 1, 1, 1);
        badMove("8", 3, 1, 1, 1);
        badMove("8/", 3, 1, 1, 2);
        badMove("8/5 6", 3, 1, 1, 5);
        badMove("8//5", 3, 1, 1, 2);
        badMove("8/bar", 3, 1, 1, 2);
        badMove("off/5", 3, 1, 1, 0);
        badMove("ba/5", 3, 1, 1, 0);
        badMove("barr/5", 3, 1, 1, 0);
        badMove("8/offf", 3, 1, 1, 2);
        badMove("barz/5", 3, 1, 1, 0);
        badMove("abar/5", 3, 1, 1, 0);
        badMove("8/offz", 3, 1, 1, 2);
        badMove("8/aoff", 3, 1, 1, 2);
        badMove("8/of", 3, 1, 1, 2);
        badMove("Bar/5", 3, 1, 1, 0);
        badMove("8/5**", 3, 1, 1, 4);
        badMove("8*/5", 3, 1, 1, 1);
        badMove("8/5(2", 1, 1, 1, 5);
        badMove("8/5()", 1, 1, 1, 4);
        badMove("8/5(2)(2)", 1, 1, 1, 6);
        badMove("8/5(2)/3", 1, 1, 1, 6);
        badMove("8/5(2)*", 1, 1, 1, 6);
        badMove("8/5)", 1, 1, 1, 3);
        badMove("8/5,6/5", 3, 1, 1, 3);
        badMove("8/5\u0000", 3, 1, 1, 3);
        badMove("8(2)/5", 3, 1, 1, 1);
        badMove("25/24", 3, 1, 2, 0);
        badMove("0/5", 3, 1, 2, 0);
        badMove("8/25", 3, 1, 2, 2);
        badMove("8/0", 3, 1, 2, 2);
        badMove("008/5", 3, 1, 2, 0);
        badMove("8/005", 3, 1, 2, 2);
        badMove("8/5(1)", 1, 1, 2, 4);
        badMove("8/5(5)", 1, 1, 2, 4);
        badMove("8/5(002)", 1, 1, 2, 4);
        badMove("8/5(0)", 1, 1, 2, 4);
        badMove("8/7 8/7 8/7 8/7 8/7 8/7 8/7 8/7 8/7", 1, 1, 7, 34);
        badMove("8/7/6/5/4/3/2/1/8/7", 1, 1, 7, 18);
        badMove("8/7/6/5/4/3/2/1/8/off", 1, 1, 7, 18);
        badMove("8/7/6/5/4/3/2/1/8/25", 1, 1, 2, 18);
        badMove("8/7/6/5(3)", 1, 1, 7, 8);
        badMove("8/7/6/5(3", 1, 1, 7, 8);
        badMove("8/7/6/5(5)", 1, 1, 2, 8);
        badMove("8/7(4) 6/5(4) 24/23", 1, 1, 7, 17);
        badMove("8/7(4) 6/5 6/5 24/23(3)", 1, 1, 7, 21);
        badMove("8/7(4) 6/5(4) 24", 1, 1, 1, 16);
        // Eight MOVES are read, though no PLAY has so many.
        badMove("8/7(4) 6/5(4)", 1, 1, 3, 13);
        badMove("8/7/6/5/4(2)  ", 1, 1, 3, 14);
        badMove("8/5", 3, 1, 3, 3);
        badMove("8/5 6/4", 3, 1, 3, 7);
        badMove("bar/22 6/5", 3, 1, 3, 10);
        badMove("6/off 6/5", 6, 1, 3, 9);
        badMove("24/off/off", 6, 1, 3, 10);
        badMove("8/5 6/5 24/23", 3, 1, 3, 13);
        badMove("8/5* 6/5", 3, 1, 4, 8);
        badMove("8/5 6/5*", 3, 1, 4, 8);
        badMove("8/5 6/5* ", 3, 1, 4, 9);
        BearHouse x = new BearHouse();
        Check.badArgument("say(-1, 3, 1)", () -> x.say(-1, 3, 1));
        Check.badArgument("say(1, 3, 1) of an empty tape", () -> x.say(1, 3, 1));
        Check.feed(x, "8/5 6/5");
        Check.badArgument("say(7, 0, 1)", () -> x.say(7, 0, 1));
        Check.badArgument("say(7, 3, 7)", () -> x.say(7, 3, 7));
        Check.due("ask(4)", x.ask(4), 20);
        Check.due("say(7, 3, 1)", x.say(7, 3, 1), 4);
    }

    private static void sameResult(String position, String text, int a, int b, String way) {
        BearHouse x = new BearHouse();
        if (!position.isEmpty()) {
            Check.due("position \"" + position + "\"", Check.position(x, position), 0);
        }
        int number = Check.say(x, text, a, b);
        Check.due("say \"" + text + "\" finds one", number >= 0 ? 0 : number, 0);
        Check.due("fault()", x.fault(), -1);
        StringBuilder got = new StringBuilder();
        for (int k = 0; number >= 0 && x.way(number, k) >= 0; k++) {
            got.append(x.way(number, k) / 32).append('/').append(x.way(number, k) % 32).append(' ');
        }
        Check.due("the WAY of \"" + text + "\"", got.toString().trim(), way);
    }

    private static void goodMoves() {
        sameResult("", "8/5 6/5", 3, 1, "8/5 6/5");
        sameResult("", "6/5 8/5", 1, 3, "8/5 6/5");
        sameResult("", "6/5\n8/5  ", 3, 1, "8/5 6/5");
        sameResult("", "08/05 06/05", 3, 1, "8/5 6/5");
        sameResult("", "24/23/20", 3, 1, "24/23 23/20");
        sameResult("", "24/23 23/20", 3, 1, "24/23 23/20");
        sameResult("", "24/21/20", 3, 1, "24/23 23/20");
        sameResult("", "8/7(2)6/5(2)", 1, 1, "8/7 8/7 6/5 6/5");
        sameResult("", "8/7/6(2)", 1, 1, "8/7 8/7 7/6 7/6");
        sameResult("", "24/20/16(2)", 4, 4, "24/20 24/20 20/16 20/16");
        sameResult("6:1;6:1;0", "6/5/off", 6, 1, "6/5 5/0");
        sameResult("6:1,3:1;6:1;0", "6/off 3/off", 6, 4, "6/0 3/0");
        sameResult("6:1,3:1;6:1;0", "6/2 3/off", 6, 4, "6/2 3/0");
        sameResult("25:1,6:1;1:1;0", "bar/24*/22", 1, 2, "25/24 24/22");
        // A star counts for the first time alone: the second MAN finds the POINT free.
        sameResult("8:2;19:1,21:2;0", "8/6*(2)", 2, 2, "8/6 8/6");
        sameResult("8:3,7:1;21:1;0", "8/6/4*(2)", 2, 2, "8/6 8/6 6/4 6/4");
    }

    private static void movesAndResults() {
        BearHouse x = new BearHouse();
        x.plays(6, 4);
        int before = x.ask(6);
        Check.due("say with FAULT 1", Check.say(x, "8/", 3, 1), -2);
        Check.due("ask(6) stays", x.ask(6), before);
        Check.due("say with FAULT 7", Check.say(x, "8/7/6/5(3)", 3, 1), -8);
        Check.due("ask(6) stays", x.ask(6), before);
        Check.due("say with FAULT 3", Check.say(x, "8/5", 3, 1), -4);
        Check.due("ask(6) is new", x.ask(6), 16);
        Check.due("say", Check.say(x, "8/5 6/5", 3, 1), 4);
        Check.due("fault()", x.fault(), -1);
        // A shorter row is no PLAY while a longer one is there; nor is one MOVE by the lesser die.
        Check.due("position", Check.position(x, "10:1;21:2,22:2,23:2;0"), 0);
        Check.due("plays(6, 5)", x.plays(6, 5), 1);
        Check.due("say by the lesser", Check.say(x, "10/5", 6, 5), -4);
        Check.due("position", Check.position(x, "12:1;20:1;0"), 0);
        Check.due("say one of two", Check.say(x, "12/6", 6, 5), -4);
        Check.due("say both", Check.say(x, "12/6/1", 6, 5), 0);
        Check.due("position", Check.position(x, "6:1;6:1;0"), 0);
        Check.due("say one of two", Check.say(x, "6/off", 6, 1), -4);
        Check.due("position", Check.position(x, "3:1;6:1;0"), 0);
        Check.due("say by either", Check.say(x, "3/off", 4, 5), 0);
        Check.due("position", Check.position(x, ";6:1;0"), 0);
        Check.due("say when it is OVER", Check.say(x, "6/off", 6, 5), -4);
        Check.due("ask(6) when it is OVER", x.ask(6), 1);
        Check.due("position", Check.position(x, "25:1;1:2,2:2,3:2,4:2,5:2,6:2;0"), 0);
        Check.due("say when shut out", Check.say(x, "bar/24", 1, 2), -4);
        Check.due("way(0, 0) when shut out", x.way(0, 0), -1);
    }
}
