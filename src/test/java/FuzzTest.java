import java.util.Arrays;
import java.util.List;
import java.util.Random;
import java.util.function.LongSupplier;

/** Calls by chance: nothing is thrown but what the document names for the call, and that by a throw. */
public final class FuzzTest {
    private static final Class<?> ARGUMENT = IllegalArgumentException.class;
    private static final Class<?> STATE = IllegalStateException.class;
    private static final Class<?> ELEMENT = java.util.NoSuchElementException.class;
    private static final Class<?> INDEX = IndexOutOfBoundsException.class;
    private static final Class<?> UNSUPPORTED = UnsupportedOperationException.class;

    private static final String[] TEXTS = {"6:5,8:3,13:5,24:2;6:5,8:3,13:5,24:2;0", "6:2,1:3;6:2,1:1;1",
        "25:2,3:4;25:1,5:2;0", "8/5 6/5", "24/23/20", "bar/20*/18", "6/off(2)", "13/8*(3)", "1:1;1:1;0"};
    private static final String LETTERS = "0123456789,;:/*() \nbarof\u0000\u00ffZ~!";

    private final Random chance;
    private final BearHouse x = new BearHouse();

    private FuzzTest(Random chance) {
        this.chance = chance;
    }

    public static void main(String[] args) {
        for (int k = 0; k < 2500; k++) {
            FuzzTest run = new FuzzTest(new Random(k));
            for (int call = 0; call < 140; call++) {
                run.step();
            }
        }
        Check.finish("FuzzTest");
    }

    private static void only(String call, LongSupplier made, Class<?>... allowed) {
        List<Class<?>> list = Arrays.asList(allowed);
        String got = "as the document says";
        try {
            made.getAsLong();
        } catch (RuntimeException | Error e) {
            got = list.contains(e.getClass()) ? got : "threw " + e;
        }
        Check.due(call, got, "as the document says");
    }

    private int any(int least, int most) {
        switch (chance.nextInt(24)) {
            case 0: return Integer.MIN_VALUE;
            case 1: return Integer.MAX_VALUE;
            case 2: return least - 1;
            case 3: return most + 1;
            case 4: return chance.nextInt();
            default: return least + chance.nextInt(most - least + 1);
        }
    }

    private int die() {
        return any(1, 6);
    }

    private int stand() {
        int stand = 0;
        for (int k = chance.nextInt(6); k > 0; k--) {
            stand += 1 << 4 * chance.nextInt(6);
        }
        return chance.nextInt(12) == 0 ? any(0, 0xffffff) : stand;
    }

    private int feedSome() {
        StringBuilder text = new StringBuilder(TEXTS[chance.nextInt(TEXTS.length)]);
        for (int k = chance.nextInt(3); k > 0; k--) {
            text.setCharAt(chance.nextInt(text.length()), LETTERS.charAt(chance.nextInt(LETTERS.length())));
        }
        int length = Check.feed(x, text.toString());
        return chance.nextInt(10) == 0 ? any(0, 400) : length;
    }

    private void step() {
        int a = die();
        int b = die();
        int i = any(0, Math.max(0, x.ask(6) - 1));
        int player = any(0, 1);
        int point = any(0, 25);
        int stand = stand();
        int other = stand();
        switch (chance.nextInt(22)) {
            case 0: only("feed", () -> x.feed(any(0, 9), any(0, 9), any(0, 9), any(0, 9), any(0, 9))); break;
            case 1: only("position", () -> x.position(feedSome()), ARGUMENT, STATE); break;
            case 2: only("fault", x::fault); break;
            case 3: only("men", () -> x.men(player, point), INDEX); break;
            case 4: only("ask", () -> x.ask(any(0, 7)), ARGUMENT); break;
            case 5: only("plays", () -> x.plays(a, b), ARGUMENT, STATE); break;
            case 6: only("plays", () -> x.plays(x.match(10), x.match(11)), ARGUMENT, STATE); break;
            case 7: only("result", () -> x.result(i, player, point), ELEMENT, INDEX); break;
            case 8: only("way", () -> x.way(i, any(0, 4)), ELEMENT); break;
            case 9: only("choose", () -> x.choose(i), ELEMENT); break;
            case 10: only("say", () -> x.say(feedSome(), a, b), ARGUMENT, STATE); break;
            case 11: only("back", () -> x.back() ? 1 : 0); break;
            case 12: only("begin", this::beginSometimes, ARGUMENT); break;
            case 13: only("roll", () -> x.roll(a, b), ARGUMENT, STATE); break;
            case 14: only("offer and answer", () -> x.offer() + x.answer(chance.nextInt(4) > 0), STATE); break;
            case 15: only("next", this::goOn, STATE); break;
            case 16: only("match", () -> x.match(any(0, 11)), ARGUMENT); break;
            case 17: only("learn", x::learn, STATE); break;
            case 18: only("rolls", () -> x.rolls(stand), ARGUMENT, STATE); break;
            case 19: only("best", () -> x.best(stand, a, b), ARGUMENT, STATE); break;
            case 20: only("within", () -> x.within(stand, any(0, 12)), ARGUMENT, STATE); break;
            default: only("race", () -> x.race(stand, other), ARGUMENT, STATE, UNSUPPORTED); break;
        }
        only("octet", () -> x.octet(any(0, 100)));
    }

    private long beginSometimes() {
        if (chance.nextInt(8) == 0) {
            x.begin(any(0, 25));
        }
        return 0;
    }

    private long goOn() {
        x.next();
        return 0;
    }
}
