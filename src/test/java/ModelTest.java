import java.util.ArrayDeque;
import java.util.ArrayList;
import java.util.Deque;
import java.util.List;
import java.util.Map;
import java.util.NoSuchElementException;
import java.util.Random;
import java.util.function.LongSupplier;

/** Promises 1 to 19: runs of 500 calls by chance, each answer compared with a plain second telling of them. */
public final class ModelTest {
    private static final String[] TEXTS = {"6:5,8:3,13:5,24:2;6:5,8:3,13:5,24:2;0", "6:2,1:3;6:2,1:1;1",
        "25:2,3:4;25:1,5:2;0", "8/5 6/5", "24/23/20", "bar/20*/18", "6/off(2)", "13/8*(3)", "1:1;1:1;0", "6:1;;0"};
    private static final String LETTERS = "0123456789,;:/*() \nbarof";

    private final Random chance;
    private final BearHouse x = new BearHouse();
    private int calls;

    private Rules board = Rules.start();
    private final List<int[]> results = new ArrayList<>();
    private final List<int[]> ways = new ArrayList<>();
    private final Deque<Rules> past = new ArrayDeque<>();
    private String tape = "";
    private int fault = -1;
    private int level;
    private int state;
    private int target;
    private final int[] scores = new int[2];
    private int cube = 1;
    private int owner = -1;
    private int crawford;
    private boolean crawfordNext;
    private boolean crawfordSeen;
    private int games;
    private int rolls;
    private int worth;
    private int winner = -1;
    private int greater;
    private int lesser;

    private ModelTest(Random chance) {
        this.chance = chance;
    }

    public static void main(String[] args) {
        int[] states = new int[7];
        for (int k = 0; k < 1500; k++) {
            ModelTest run = new ModelTest(new Random(k));
            while (run.calls < 490) {
                run.step();
                states[run.state]++;
            }
        }
        for (int state = 0; state <= 6; state++) {
            Check.due("STATE " + state + " was seen, " + states[state], states[state] > 1000 ? 1 : 0, 1);
        }
        Check.finish("ModelTest");
    }

    private long same(String call, LongSupplier real, LongSupplier model) {
        calls++;
        String want = told(model);
        Check.due(call, told(real), want);
        return want.matches("-?[0-9]+") ? Long.parseLong(want) : 0;
    }

    private static String told(LongSupplier made) {
        try {
            return "" + made.getAsLong();
        } catch (IllegalArgumentException | IllegalStateException | NoSuchElementException
                | IndexOutOfBoundsException e) {
            return e.getClass().getSimpleName();
        }
    }

    private boolean underWay() {
        return state >= 1 && state <= 5;
    }

    private void forget() {
        results.clear();
        ways.clear();
    }

    private void checkDice(int a, int b) {
        if (Math.min(a, b) < 1 || Math.max(a, b) > 6) {
            throw new IllegalArgumentException();
        }
    }

    private void checkDue(int a, int b) {
        boolean due = state == 3 && (a == greater && b == lesser || a == lesser && b == greater);
        if (underWay() && !due) {
            throw new IllegalStateException();
        }
    }

    private List<Rules.Row> workOut(int a, int b) {
        forget();
        List<Rules.Row> plays = Rules.playsAmong(board.rows(a, b), a, b);
        for (Map.Entry<int[], int[]> entry : Rules.results(plays).entrySet()) {
            results.add(entry.getKey());
            ways.add(entry.getValue());
        }
        return plays;
    }

    private long plays(int a, int b) {
        checkDice(a, b);
        checkDue(a, b);
        workOut(a, b);
        return results.size();
    }

    private String takeText(int n) {
        String text = tape.substring(0, n);
        tape = "";
        fault = -1;
        return text;
    }

    private void checkLength(int n) {
        if (n < 0 || n > tape.length()) {
            throw new IllegalArgumentException();
        }
    }

    private long position(int n) {
        checkLength(n);
        if (underWay()) {
            throw new IllegalStateException();
        }
        TextRules text = new TextRules(takeText(n));
        try {
            text.position();
        } catch (TextRules.Fault f) {
            fault = f.place;
            return f.number;
        }
        keep();
        board = text.rules;
        forget();
        return 0;
    }

    private void keep() {
        past.addLast(board);
        if (past.size() > 8) {
            past.removeFirst();
        }
    }

    private long say(int n, int a, int b) {
        checkLength(n);
        checkDice(a, b);
        checkDue(a, b);
        TextRules text = new TextRules(takeText(n));
        try {
            text.moves();
        } catch (TextRules.Fault f) {
            fault = f.place;
            return -1 - f.number;
        }
        int found = text.find(workOut(a, b));
        fault = found < 0 ? n : -1;
        return found < 0 ? found - 1 : found;
    }

    private void checkPlace(int player, int point) {
        if (player < 0 || player > 1 || point < 0 || point > 25) {
            throw new IndexOutOfBoundsException();
        }
    }

    private void checkResult(int i) {
        if (i < 0 || i >= results.size()) {
            throw new NoSuchElementException();
        }
    }

    private long result(int i, int player, int point) {
        checkResult(i);
        checkPlace(player, point);
        return results.get(i)[(player == board.turn ? 0 : 26) + 25 - point];
    }

    private long way(int i, int k) {
        checkResult(i);
        return k < 0 || k >= ways.get(i).length ? -1 : ways.get(i)[k];
    }

    private long choose(int i) {
        checkResult(i);
        Rules next = new Rules();
        for (int k = 0; k < 26; k++) {
            next.men[board.turn][25 - k] = results.get(i)[k];
            next.men[1 - board.turn][25 - k] = results.get(i)[26 + k];
        }
        next.turn = 1 - board.turn;
        if (!underWay()) {
            keep();
        }
        int mover = board.turn;
        board = next;
        forget();
        if (underWay()) {
            greater = 0;
            lesser = 0;
            state = 2;
            if (board.over()) {
                end(mover, times(1 - mover));
            }
        }
        return board.turn;
    }

    private int times(int loser) {
        int back = 0;
        for (int point = 19; point <= 25; point++) {
            back += board.men[loser][point];
        }
        return board.men[loser][0] > 0 ? 1 : back == 0 ? 2 : 3;
    }

    private void end(int who, int times) {
        worth = times * cube;
        winner = who;
        scores[who] += worth;
        state = target > 0 && scores[who] >= target ? 6 : 5;
        if (target >= 2 && scores[who] == target - 1 && !crawfordSeen) {
            crawfordSeen = true;
            crawfordNext = true;
        }
    }

    private long back() {
        if (underWay() || past.isEmpty()) {
            return 0;
        }
        board = past.removeLast();
        forget();
        return 1;
    }

    private void game() {
        board = Rules.start();
        forget();
        state = 1;
        cube = 1;
        owner = -1;
        crawford = crawfordNext ? 1 : 0;
        crawfordNext = false;
        greater = 0;
        lesser = 0;
        games++;
    }

    private long begin(int points) {
        if (points < 0 || points > 25) {
            throw new IllegalArgumentException();
        }
        target = points;
        scores[0] = 0;
        scores[1] = 0;
        games = 0;
        rolls = 0;
        worth = 0;
        winner = -1;
        crawfordNext = false;
        crawfordSeen = false;
        past.clear();
        game();
        return 0;
    }

    private long roll(int a, int b) {
        checkDice(a, b);
        if (state != 1 && state != 2) {
            throw new IllegalStateException();
        }
        rolls++;
        if (state == 1 && a == b) {
            return 1;
        }
        if (state == 1) {
            board.turn = a > b ? 0 : 1;
        }
        greater = Math.max(a, b);
        lesser = Math.min(a, b);
        state = 3;
        return 3;
    }

    private long offer() {
        if (state != 2 || owner == 1 - board.turn || cube >= 64 || crawford == 1) {
            throw new IllegalStateException();
        }
        state = 4;
        return 2 * cube;
    }

    private long answer(boolean takes) {
        if (state != 4) {
            throw new IllegalStateException();
        }
        if (takes) {
            cube *= 2;
            owner = 1 - board.turn;
            state = 2;
        } else {
            end(board.turn, 1);
        }
        return state;
    }

    private long next() {
        if (state != 5) {
            throw new IllegalStateException();
        }
        game();
        return 0;
    }

    private long match(int what) {
        int[] told = {state, scores[0], scores[1], cube, owner, crawford, games, rolls, worth, winner, greater, lesser};
        if (what < 0 || what > 11) {
            throw new IllegalArgumentException();
        }
        return told[what];
    }

    private int pips(int player) {
        int sum = 0;
        for (int point = 1; point <= 25; point++) {
            sum += point * board.men[player][point];
        }
        return sum;
    }

    private long ask(int what) {
        int[] told = {board.turn, pips(0), pips(1), board.over() ? 1 : 0, tape.length(), 0, results.size(), level};
        if (what < 0 || what > 7) {
            throw new IllegalArgumentException();
        }
        return told[what];
    }

    private int any(int least, int most) {
        int[] odd = {Integer.MIN_VALUE, Integer.MAX_VALUE, least - 1, most + 1};
        return chance.nextInt(40) == 0 ? odd[chance.nextInt(4)] : least + chance.nextInt(most - least + 1);
    }

    private int feedSome() {
        StringBuilder text = new StringBuilder(TEXTS[chance.nextInt(TEXTS.length)]);
        for (int k = chance.nextInt(2); k > 0; k--) {
            text.setCharAt(chance.nextInt(text.length()), LETTERS.charAt(chance.nextInt(LETTERS.length())));
        }
        String whole = text + " ".repeat((400 - text.length()) % 20);
        for (int k = 0; k < whole.length(); k += 20) {
            feed(whole.substring(k, k + 20));
        }
        return chance.nextInt(20) == 0 ? any(0, 60) : tape.length() == whole.length() ? text.length() : tape.length();
    }

    private void feed(String twenty) {
        int[] n = new int[5];
        for (int k = 0; k < 20; k++) {
            n[k / 4] = n[k / 4] << 8 | twenty.charAt(k);
        }
        same("feed " + twenty, () -> x.feed(n[0], n[1], n[2], n[3], n[4]), () -> {
            if (tape.length() + 20 > 400) {
                return -1;
            }
            tape += twenty;
            return tape.length();
        });
    }

    private void step() {
        look();
        if (underWay() && chance.nextInt(4) > 0) {
            goOnInTheMatch();
            return;
        }
        switch (chance.nextInt(13)) {
            case 0: tryPosition(); break;
            case 1: trySay(any(1, 6), any(1, 6)); break;
            case 2: same("back", () -> x.back() ? 1 : 0, this::back); break;
            case 3: tryBegin(); break;
            case 4: tryRoll(any(1, 6), any(1, 6)); break;
            case 5: same("offer", x::offer, this::offer); break;
            case 6: tryAnswer(chance.nextBoolean()); break;
            case 7: tryNext(); break;
            case 8: tryLearn(); break;
            case 9: feedSome(); break;
            case 10: tryChoose(); break;
            default: tryPlays(any(1, 6), any(1, 6)); tryChoose(); break;
        }
    }

    /** A few looks at the object, so that what a call changes is seen soon. */
    private void look() {
        int player = any(0, 1);
        int point = any(0, 25);
        int i = any(0, Math.max(results.size() - 1, 0));
        int what = any(0, 11);
        int asked = chance.nextInt(40) == 0 ? any(0, 7) : new int[] {0, 1, 2, 3, 4, 6, 7}[chance.nextInt(7)];
        switch (chance.nextInt(5)) {
            case 0: same("men", () -> x.men(player, point), () -> {
                checkPlace(player, point);
                return board.men[player][point];
            }); break;
            case 1: same("result", () -> x.result(i, player, point), () -> result(i, player, point)); break;
            case 2: same("way", () -> x.way(i, point / 4 - 1), () -> way(i, point / 4 - 1)); break;
            case 3: same("match " + what, () -> x.match(what), () -> match(what)); break;
            default: break;
        }
        same("fault", x::fault, () -> fault);
        if (asked != 5) {
            same("ask " + asked, () -> x.ask(asked), () -> ask(asked));
        }
    }

    private void goOnInTheMatch() {
        switch (state) {
            case 1: tryRoll(any(1, 6), any(1, 6)); break;
            case 2: rollOrDouble(); break;
            case 3: finishTurn(); break;
            case 4: tryAnswer(chance.nextInt(3) > 0); break;
            default: tryNext(); break;
        }
    }

    private void rollOrDouble() {
        if (chance.nextInt(4) == 0) {
            same("offer", x::offer, this::offer);
        } else {
            int a = any(3, 6);
            tryRoll(a, chance.nextBoolean() ? a : any(1, 6));
        }
    }

    private void finishTurn() {
        if (chance.nextInt(10) == 0) {
            trySay(greater, lesser);
        } else {
            tryPlays(chance.nextBoolean() ? greater : lesser, chance.nextBoolean() ? greater : lesser);
        }
        tryChoose();
    }

    private void tryPosition() {
        int n = feedSome();
        same("position(" + n + ")", () -> x.position(n), () -> position(n));
    }

    private void trySay(int a, int b) {
        int n = feedSome();
        same("say(" + n + ", " + a + ", " + b + ")", () -> x.say(n, a, b), () -> say(n, a, b));
    }

    private void tryBegin() {
        int points = chance.nextInt(3) == 0 ? any(0, 25) : any(0, 5);
        same("begin(" + points + ")", () -> {
            x.begin(points);
            return 0;
        }, () -> begin(points));
    }

    private void tryNext() {
        same("next", () -> {
            x.next();
            return 0;
        }, this::next);
    }

    private void tryRoll(int a, int b) {
        same("roll(" + a + ", " + b + ")", () -> x.roll(a, b), () -> roll(a, b));
    }

    private void tryAnswer(boolean takes) {
        same("answer", () -> x.answer(takes), () -> answer(takes));
    }

    private void tryPlays(int a, int b) {
        same("plays(" + a + ", " + b + ")", () -> x.plays(a, b), () -> plays(a, b));
    }

    private void tryChoose() {
        int i = any(0, Math.max(results.size() - 1, 0));
        same("choose(" + i + ")", () -> x.choose(i), () -> choose(i));
    }

    private void tryLearn() {
        calls++;
        if (x.learn() > 0) {
            level++;
        }
    }
}
