/** Promises 1, 2, 5, 6, 24. */
public final class NewObjectTest {
    public static void main(String[] args) {
        fresh();
        tape();
        askAndMen();
        Check.finish("NewObjectTest");
    }

    private static void fresh() {
        BearHouse x = new BearHouse();
        Check.due("NONE", BearHouse.NONE, -1);
        int[] start = new int[26];
        start[24] = 2;
        start[13] = 5;
        start[8] = 3;
        start[6] = 5;
        for (int player = 0; player < 2; player++) {
            for (int point = 0; point < 26; point++) {
                Check.due("men(" + player + ", " + point + ")", x.men(player, point), start[point]);
            }
        }
        int[] asked = {0, 167, 167, 0, 0, 0, 0, 0};
        for (int what = 0; what < 8; what++) {
            Check.due("ask(" + what + ")", x.ask(what), asked[what]);
        }
        int[] told = {0, 0, 0, 1, -1, 0, 0, 0, 0, -1, 0, 0};
        for (int what = 0; what < 12; what++) {
            Check.due("match(" + what + ")", x.match(what), told[what]);
        }
        Check.due("fault()", x.fault(), -1);
        Check.due("octet(0)", x.octet(0), -1);
        Check.due("back()", x.back() ? 1 : 0, 0);
        Check.noElement("result(0, 0, 0)", () -> x.result(0, 0, 0));
        Check.noElement("way(0, 0)", () -> x.way(0, 0));
        Check.noElement("choose(0)", () -> x.choose(0));
        Check.badState("offer()", x::offer);
        Check.badState("answer(true)", () -> x.answer(true));
        Check.badState("roll(1, 2)", () -> x.roll(1, 2));
        Check.badState("next()", () -> {
            x.next();
            return 0;
        });
    }

    private static void tape() {
        BearHouse x = new BearHouse();
        for (int k = 1; k <= 20; k++) {
            Check.due("feed", x.feed(-1, 0, 0x3b3b3b3b, 5, Integer.MIN_VALUE), 20 * k);
        }
        Check.due("feed beyond 400", x.feed(0, 0, 0, 0, 0), -1);
        Check.due("ask(4)", x.ask(4), 400);
        Check.badArgument("position(401)", () -> x.position(401));
        Check.badArgument("position(-1)", () -> x.position(-1));
        Check.badArgument("say(401, 1, 2)", () -> x.say(401, 1, 2));
        Check.due("ask(4) behind what threw", x.ask(4), 400);
        Check.due("position(400)", x.position(400), 1);
        Check.due("fault() at byte 255", x.fault(), 0);
        Check.due("ask(4)", x.ask(4), 0);
        Check.due("position(0)", x.position(0), 1);
        Check.due("fault() of no text", x.fault(), 0);
        // The highest byte of each number comes first, and the numbers in their order.
        Check.due("feed", x.feed(0x363a313b, 0x313a313b, 0x31202020, 0, 0), 20);
        Check.due("position(9)", x.position(9), 0);
        Check.due("men(0, 6)", x.men(0, 6), 1);
        Check.due("men(1, 1)", x.men(1, 1), 1);
        Check.due("ask(0)", x.ask(0), 1);
        Check.due("feed", x.feed(0x363a313b, 0x313a313b, 0x30202020, 0, 0), 20);
        Check.due("position(20) up to byte 0", x.position(20), 1);
        Check.due("fault()", x.fault(), 12);
    }

    private static void askAndMen() {
        BearHouse x = new BearHouse();
        Check.due("position", Check.position(x, "25:2,7:1,6:3;25:1,1:4;1"), 0);
        Check.due("ask(1)", x.ask(1), 75);
        Check.due("ask(2)", x.ask(2), 29);
        Check.due("men(0, 0)", x.men(0, 0), 9);
        Check.due("men(1, 0)", x.men(1, 0), 10);
        Check.due("men(0, 25)", x.men(0, 25), 2);
        for (int what : new int[] {-1, 8, Integer.MIN_VALUE, Integer.MAX_VALUE}) {
            Check.badArgument("ask(" + what + ")", () -> x.ask(what));
        }
        for (int player : new int[] {-1, 2, Integer.MIN_VALUE, Integer.MAX_VALUE}) {
            Check.noIndex("men(" + player + ", 1)", () -> x.men(player, 1));
        }
        for (int point : new int[] {-1, 26, Integer.MIN_VALUE, Integer.MAX_VALUE}) {
            Check.noIndex("men(0, " + point + ")", () -> x.men(0, point));
            Check.noIndex("men(1, " + point + ")", () -> x.men(1, point));
        }
        x.rolls(0);
        Check.due("ask(5)", x.ask(5), 1);
        Check.due("octet(0)", x.octet(0), '0');
        for (int k : new int[] {-1, 1, 400, Integer.MIN_VALUE, Integer.MAX_VALUE}) {
            Check.due("octet(" + k + ")", x.octet(k), -1);
        }
    }
}
