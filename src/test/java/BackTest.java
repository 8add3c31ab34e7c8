/** Promise 12, and what promises 10 and 13 say of it. */
public final class BackTest {
    public static void main(String[] args) {
        theLatestEight();
        chosenOnes();
        inAMatch();
        Check.finish("BackTest");
    }

    private static void goTo(BearHouse x, int point) {
        Check.due("position", Check.position(x, point + ":1;;" + point % 2), 0);
    }

    private static void theLatestEight() {
        BearHouse x = new BearHouse();
        for (int point = 1; point <= 12; point++) {
            goTo(x, point);
        }
        x.plays(1, 1);
        for (int point = 11; point >= 4; point--) {
            Check.due("back() to " + point, x.back() ? 1 : 0, 1);
            Check.due("men", x.men(0, point), 1);
            Check.due("pips", x.ask(1), point);
            Check.due("turn", x.ask(0), point % 2);
            Check.due("no RESULTS", x.ask(6), 0);
        }
        x.plays(1, 1);
        Check.due("back() beyond eight", x.back() ? 1 : 0, 0);
        Check.due("RESULTS stay", x.ask(6), 1);
        Check.due("pips stay", x.ask(1), 4);
        goTo(x, 9);
        goTo(x, 10);
        Check.due("back()", x.back() ? 1 : 0, 1);
        Check.due("pips", x.ask(1), 9);
        goTo(x, 11);
        Check.due("back()", x.back() ? 1 : 0, 1);
        Check.due("pips", x.ask(1), 9);
        Check.due("back()", x.back() ? 1 : 0, 1);
        Check.due("pips", x.ask(1), 4);
        Check.due("back()", x.back() ? 1 : 0, 0);
    }

    private static void chosenOnes() {
        BearHouse x = new BearHouse();
        x.plays(6, 5);
        x.choose(3);
        x.plays(2, 1);
        x.choose(0);
        Check.due("back()", x.back() ? 1 : 0, 1);
        Check.due("turn", x.ask(0), 1);
        Check.due("pips", x.ask(1), 156);
        Check.due("back()", x.back() ? 1 : 0, 1);
        Check.due("turn", x.ask(0), 0);
        Check.due("pips", x.ask(1), 167);
        Check.due("back()", x.back() ? 1 : 0, 0);
    }

    private static void inAMatch() {
        BearHouse x = new BearHouse();
        goTo(x, 5);
        x.begin(1);
        Check.due("back() in STATE 1", x.back() ? 1 : 0, 0);
        x.roll(3, 1);
        x.plays(3, 1);
        Check.due("back() in STATE 3", x.back() ? 1 : 0, 0);
        Check.due("RESULTS stay", x.ask(6), 16);
        x.choose(0);
        Check.due("back() in STATE 2", x.back() ? 1 : 0, 0);
        x.offer();
        Check.due("back() in STATE 4", x.back() ? 1 : 0, 0);
        Check.due("answer(false)", x.answer(false), 6);
        Check.due("back() in STATE 6, forgotten by begin()", x.back() ? 1 : 0, 0);
        int pips = x.ask(1);
        goTo(x, 7);
        Check.due("back() in STATE 6", x.back() ? 1 : 0, 1);
        Check.due("pips", x.ask(1), pips);
        Check.due("back() in STATE 6", x.back() ? 1 : 0, 0);
        x.begin(0);
        x.roll(3, 1);
        x.plays(3, 1);
        x.choose(0);
        x.offer();
        Check.due("answer(false)", x.answer(false), 5);
        Check.due("back() in STATE 5", x.back() ? 1 : 0, 0);
    }
}
