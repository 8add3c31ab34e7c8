import java.util.Arrays;
import java.util.NoSuchElementException;

/** Backgammon by its rules, a match with a cube, and bearing off in exact fractions. */
public final class BearHouse {
    public static final int NONE = -1;

    private static final int OFF = 0;
    private static final int BAR = 25;
    private static final int HOME = 6;
    private static final int PLACES = 26;
    private static final int MEN = 15;
    private static final int ROOM = 400;
    private static final int LAST_LEVEL = 90;
    private static final int LAST_ROLL = 12;

    private final Bytes tape;
    private final Bytes page;
    private final Board board;
    private final Past past;
    private final Reader reader;
    private final Texts texts;
    private final Results results;
    private final Match game;
    private final Stands stands;
    private final Printer printer;
    private int level;

    public BearHouse() {
        tape = new Bytes();
        page = new Bytes();
        board = new Board();
        past = new Past();
        reader = new Reader(tape);
        texts = new Texts(reader);
        results = new Results(board);
        game = new Match();
        stands = new Stands();
        printer = new Printer(page);
        board.setUp();
    }

    public int feed(int a, int b, int c, int d, int e) {
        if (tape.size + 20 > ROOM) {
            return NONE;
        }
        tape.addNumber(a);
        tape.addNumber(b);
        tape.addNumber(c);
        tape.addNumber(d);
        tape.addNumber(e);
        return tape.size;
    }

    public int position(int n) throws IllegalArgumentException, IllegalStateException {
        checkLength(n);
        if (game.isUnderWay()) {
            throw new IllegalStateException("a match is under way");
        }
        if (texts.parsePosition(n)) {
            past.keep(board);
            board.copyFrom(texts.board);
            results.forget();
        }
        tape.size = 0;
        return reader.fault;
    }

    public int fault() {
        return reader.faultPlace;
    }

    public int men(int player, int point) throws IndexOutOfBoundsException {
        checkPlace(player, point);
        return board.count(player, point);
    }

    public int ask(int what) throws IllegalArgumentException {
        switch (what) {
            case 0: return board.turn;
            case 1: return board.pips(0);
            case 2: return board.pips(1);
            case 3: return board.isOver() ? 1 : 0;
            case 4: return tape.size;
            case 5: return page.size;
            case 6: return results.count;
            case 7: return level;
            default: throw new IllegalArgumentException("no such what");
        }
    }

    public int plays(int a, int b) throws IllegalArgumentException, IllegalStateException {
        checkDice(a, b);
        checkDue(a, b);
        results.workOut(a, b);
        return results.count;
    }

    public int result(int i, int player, int point)
            throws NoSuchElementException, IndexOutOfBoundsException {
        checkResult(i);
        checkPlace(player, point);
        return results.menOf(i, player, point);
    }

    public int way(int i, int k) throws NoSuchElementException {
        checkResult(i);
        return results.moveOf(i, k);
    }

    public int choose(int i) throws NoSuchElementException {
        checkResult(i);
        boolean inMatch = game.isUnderWay();
        if (!inMatch) {
            past.keep(board);
        }
        results.putOnBoard(i);
        results.forget();
        if (inMatch) {
            game.goOn(board);
        }
        return board.turn;
    }

    public int say(int n, int a, int b) throws IllegalArgumentException, IllegalStateException {
        checkLength(n);
        checkDice(a, b);
        checkDue(a, b);
        int number = NONE;
        if (texts.parseMoves(n)) {
            results.workOut(a, b);
            number = results.numberOf(texts, a, b);
            if (number == NONE) {
                reader.failAtEnd(3);
            } else if (!results.starsFit) {
                reader.failAtEnd(4);
            }
        }
        tape.size = 0;
        return reader.fault == 0 ? number : -1 - reader.fault;
    }

    public boolean back() {
        if (game.isUnderWay() || !past.giveBack(board)) {
            return false;
        }
        results.forget();
        return true;
    }

    public void begin(int points) throws IllegalArgumentException {
        if (points < 0 || points > 25) {
            throw new IllegalArgumentException("a match is to 0 to 25 POINTS");
        }
        game.open(points);
        past.forget();
        setUpGame();
    }

    public int roll(int a, int b) throws IllegalArgumentException, IllegalStateException {
        checkDice(a, b);
        if (game.state == Match.FIRST_DICE) {
            game.takeFirstDice(a, b, board);
        } else if (game.state == Match.DICE) {
            game.takeDice(a, b);
        } else {
            throw new IllegalStateException("no dice are due");
        }
        return game.state;
    }

    public int offer() throws IllegalStateException {
        if (!game.mayDouble(board.turn)) {
            throw new IllegalStateException("there is no double");
        }
        game.state = Match.DOUBLED;
        return 2 * game.cube;
    }

    public int answer(boolean takes) throws IllegalStateException {
        if (game.state != Match.DOUBLED) {
            throw new IllegalStateException("no double is to be answered");
        }
        if (takes) {
            game.takeDouble(board.turn);
        } else {
            game.end(board.turn, game.cube);
        }
        return game.state;
    }

    public void next() throws IllegalStateException {
        if (game.state != Match.GAME_OVER) {
            throw new IllegalStateException("no game is over");
        }
        setUpGame();
    }

    public int match(int what) throws IllegalArgumentException {
        if (what < 0 || what > 11) {
            throw new IllegalArgumentException("no such what");
        }
        return game.tell(what);
    }

    public int learn() throws IllegalStateException {
        if (level >= LAST_LEVEL) {
            throw new IllegalStateException("LEVEL is 90");
        }
        level++;
        return Stands.howMany(HOME, MEN, level);
    }

    public int rolls(int stand) throws IllegalArgumentException, IllegalStateException {
        checkStand(stand);
        checkKnown(stand);
        stands.workOut(stand);
        stands.putRolls(stand, printer.top);
        printer.print(Stands.SCALE);
        return page.size;
    }

    public int best(int stand, int a, int b) throws IllegalArgumentException, IllegalStateException {
        checkStand(stand);
        checkDice(a, b);
        checkKnown(stand);
        stands.workOut(stand);
        return stands.pick(stand, a, b);
    }

    public int within(int stand, int n) throws IllegalArgumentException, IllegalStateException {
        checkStand(stand);
        if (n < 0 || n > LAST_ROLL) {
            throw new IllegalArgumentException("n is not 0 to 12");
        }
        checkKnown(stand);
        stands.workOut(stand);
        printer.top.set(stands.chances(stand, n));
        printer.print(n);
        return page.size;
    }

    public int race(int first, int second)
            throws IllegalArgumentException, IllegalStateException, UnsupportedOperationException {
        checkStand(first);
        checkStand(second);
        checkKnown(first);
        checkKnown(second);
        stands.workOut(first);
        stands.workOut(second);
        if (!stands.isSure(first) || !stands.isSure(second)) {
            throw new IllegalStateException("it may take more than 12 rolls");
        }
        if (first == 0 && second == 0) {
            throw new UnsupportedOperationException("both have none left");
        }
        stands.putRace(first, second, printer.top);
        printer.print(2 * LAST_ROLL);
        return page.size;
    }

    public int octet(int k) {
        return page.at(k);
    }

    private void setUpGame() {
        game.openGame();
        board.setUp();
        results.forget();
    }

    private void checkLength(int n) {
        if (n < 0 || n > tape.size) {
            throw new IllegalArgumentException("the TAPE has not so many bytes");
        }
    }

    private static void checkDice(int a, int b) {
        if (a < 1 || a > 6 || b < 1 || b > 6) {
            throw new IllegalArgumentException("dice are 1 to 6");
        }
    }

    private void checkDue(int a, int b) {
        if (game.isUnderWay() && !game.areDue(a, b)) {
            throw new IllegalStateException("these dice are not due");
        }
    }

    private void checkResult(int i) {
        if (i < 0 || i >= results.count) {
            throw new NoSuchElementException("no such RESULT");
        }
    }

    private static void checkPlace(int player, int point) {
        if (player < 0 || player > 1 || point < OFF || point > BAR) {
            throw new IndexOutOfBoundsException("no such PLAYER or POINT");
        }
    }

    private static void checkStand(int stand) {
        if (!Stands.isStand(stand)) {
            throw new IllegalArgumentException("no STAND");
        }
    }

    private void checkKnown(int stand) {
        if (Stands.pips(stand) > level) {
            throw new IllegalStateException("not KNOWN");
        }
    }

    /** A row of bytes: the TAPE, and the PAGE. */
    private static final class Bytes {
        private final int[] values = new int[ROOM];
        int size;

        void add(int value) {
            if (size < values.length) {
                values[size] = value & 255;
                size++;
            }
        }

        void addNumber(int number) {
            add(number >>> 24);
            add(number >>> 16);
            add(number >>> 8);
            add(number);
        }

        int at(int k) {
            return k < 0 || k >= size ? NONE : values[k];
        }
    }

    /** The MEN of both PLAYERS, each on its own 0 to 25, and whose TURN it is. */
    private static final class Board {
        private static final int[] START_POINTS = {24, 13, 8, 6};
        private static final int[] START_MEN = {2, 5, 3, 5};

        private final int[] counts = new int[2 * PLACES];
        int turn;

        int count(int player, int point) {
            return counts[player * PLACES + point];
        }

        void put(int player, int point, int many) {
            counts[player * PLACES + point] = many;
        }

        void clear() {
            Arrays.fill(counts, 0);
            put(0, OFF, MEN);
            put(1, OFF, MEN);
            turn = 0;
        }

        void setUp() {
            clear();
            for (int k = 0; k < START_POINTS.length; k++) {
                takeFromOff(0, START_POINTS[k], START_MEN[k]);
                takeFromOff(1, START_POINTS[k], START_MEN[k]);
            }
        }

        void takeFromOff(int player, int point, int many) {
            counts[player * PLACES + OFF] -= many;
            counts[player * PLACES + point] += many;
        }

        void copyFrom(Board other) {
            System.arraycopy(other.counts, 0, counts, 0, counts.length);
            turn = other.turn;
        }

        boolean hasAllOff(int player) {
            return count(player, OFF) == MEN;
        }

        boolean isOver() {
            return hasAllOff(0) || hasAllOff(1);
        }

        int pips(int player) {
            int sum = 0;
            for (int point = 1; point <= BAR; point++) {
                sum += point * count(player, point);
            }
            return sum;
        }

        int highest(int player) {
            for (int point = BAR; point > OFF; point--) {
                if (count(player, point) > 0) {
                    return point;
                }
            }
            return OFF;
        }

        boolean canMove(int from, int die) {
            if (from < 1 || from > BAR || count(turn, from) == 0) {
                return false;
            }
            if (from != BAR && count(turn, BAR) > 0) {
                return false;
            }
            int to = from - die;
            if (to > OFF) {
                return count(1 - turn, BAR - to) <= 1;
            }
            int highest = highest(turn);
            return highest <= HOME && (to == OFF || highest == from);
        }

        /** Makes a MOVE that canMove() allows; answers whether it hits. */
        boolean move(int from, int to) {
            counts[turn * PLACES + from]--;
            counts[turn * PLACES + to]++;
            boolean hits = to > OFF && count(1 - turn, BAR - to) > 0;
            if (hits) {
                counts[(1 - turn) * PLACES + BAR - to]--;
                counts[(1 - turn) * PLACES + BAR]++;
            }
            return hits;
        }

        void unmove(int from, int to, boolean hit) {
            counts[turn * PLACES + to]--;
            counts[turn * PLACES + from]++;
            if (hit) {
                counts[(1 - turn) * PLACES + BAR]--;
                counts[(1 - turn) * PLACES + BAR - to]++;
            }
        }

        /** Half of a PLAYER's MEN, thirteen POINTS from top down, as a number that orders them. */
        long half(int player, int top) {
            long key = 0;
            for (int point = top; point > top - PLACES / 2; point--) {
                key = key << 4 | counts[player * PLACES + point];
            }
            return key;
        }

        void putHalf(int player, int top, long key) {
            for (int k = 0; k < PLACES / 2; k++) {
                put(player, top - PLACES / 2 + 1 + k, (int) (key >>> 4 * k) & 15);
            }
        }
    }

    /** The latest eight POSITIONS that were left outside of a match. */
    private static final class Past {
        private static final int KEPT = 8;

        private final Board[] boards = new Board[KEPT];
        private int latest;
        private int count;

        void keep(Board board) {
            latest = (latest + 1) % KEPT;
            // Made on the first need, so that an object without a past stays small.
            if (boards[latest] == null) {
                boards[latest] = new Board();
            }
            boards[latest].copyFrom(board);
            count = Math.min(count + 1, KEPT);
        }

        boolean giveBack(Board board) {
            if (count == 0 || boards[latest] == null) {
                return false;
            }
            board.copyFrom(boards[latest]);
            latest = (latest + KEPT - 1) % KEPT;
            count--;
            return true;
        }

        void forget() {
            count = 0;
        }
    }

    /** Parts the first bytes of the TAPE into tokens and keeps the FAULT of the latest text. */
    private static final class Reader {
        static final int END = 0;
        static final int NUMBER = 1;
        static final int WORD = 2;
        static final int SIGN = 3;
        static final int NO_TOKEN = 4;

        private final Bytes tape;
        private int length;
        private int at;
        private int place;
        private int size;
        int kind;
        int value;
        int fault;
        int faultPlace = NONE;

        Reader(Bytes tape) {
            this.tape = tape;
        }

        void open(int n) {
            length = n;
            at = 0;
            fault = 0;
            faultPlace = NONE;
            read();
        }

        void read() {
            while (at < length && isBlank(tape.at(at))) {
                at++;
            }
            place = at;
            size = 0;
            value = 0;
            if (at >= length) {
                kind = END;
            } else if (isDigit(tape.at(at))) {
                readNumber();
            } else if (isLetter(tape.at(at))) {
                readWord();
            } else {
                readSign();
            }
        }

        private void readNumber() {
            kind = NUMBER;
            while (at < length && isDigit(tape.at(at))) {
                size++;
                // A longer NUMBER is a FAULT whatever its value is, so it need not be followed.
                value = size <= 2 ? 10 * value + tape.at(at) - '0' : value;
                at++;
            }
        }

        private void readWord() {
            kind = WORD;
            while (at < length && isLetter(tape.at(at))) {
                size++;
                at++;
            }
        }

        private void readSign() {
            value = tape.at(at);
            kind = value >= 33 && value <= 126 ? SIGN : NO_TOKEN;
            size = 1;
            at++;
        }

        private static boolean isBlank(int b) {
            return b == 32 || b == 10;
        }

        private static boolean isDigit(int b) {
            return b >= '0' && b <= '9';
        }

        private static boolean isLetter(int b) {
            return b >= 'a' && b <= 'z';
        }

        boolean isSign(char sign) {
            return kind == SIGN && value == sign;
        }

        boolean isWord(char first, char second, char third) {
            return kind == WORD && size == 3 && tape.at(place) == first
                    && tape.at(place + 1) == second && tape.at(place + 2) == third;
        }

        boolean fail(int number) {
            fault = number;
            faultPlace = place;
            return false;
        }

        void failAtEnd(int number) {
            fault = number;
            faultPlace = length;
        }

        /** Asks for a NUMBER here, without going on: more may be asked of it. */
        boolean isNumber(int least, int most) {
            if (kind != NUMBER) {
                return fail(1);
            }
            if (size > 2 || value < least || value > most) {
                return fail(2);
            }
            return true;
        }

        boolean passSign(char sign) {
            if (!isSign(sign)) {
                return fail(1);
            }
            read();
            return true;
        }
    }

    /** The two kinds of text: a POSITION, and MOVES. */
    private static final class Texts {
        static final int MOST_MOVES = 8;

        private final Reader reader;
        final Board board = new Board();
        final int[] from = new int[MOST_MOVES];
        final int[] to = new int[MOST_MOVES];
        final boolean[] star = new boolean[MOST_MOVES];
        int count;

        Texts(Reader reader) {
            this.reader = reader;
        }

        boolean parsePosition(int n) {
            reader.open(n);
            board.clear();
            return readMen(0) && reader.passSign(';') && readMen(1) && reader.passSign(';') && readTurn();
        }

        private boolean readMen(int player) {
            if (reader.isSign(';')) {
                return true;
            }
            for (int stacks = 0; stacks < ROOM; stacks++) {
                if (!readStack(player)) {
                    return false;
                }
                if (!reader.isSign(',')) {
                    return true;
                }
                reader.read();
            }
            return true;
        }

        private boolean readStack(int player) {
            if (!reader.isNumber(1, BAR)) {
                return false;
            }
            int point = reader.value;
            if (board.count(player, point) > 0) {
                return reader.fail(3);
            }
            if (player == 1 && point != BAR && board.count(0, BAR - point) > 0) {
                return reader.fail(5);
            }
            reader.read();
            if (!reader.passSign(':') || !reader.isNumber(1, MEN)) {
                return false;
            }
            if (reader.value > board.count(player, OFF)) {
                return reader.fail(4);
            }
            board.takeFromOff(player, point, reader.value);
            reader.read();
            return true;
        }

        private boolean readTurn() {
            if (!reader.isNumber(0, 1)) {
                return false;
            }
            if (board.hasAllOff(0) && board.hasAllOff(1)) {
                return reader.fail(6);
            }
            board.turn = reader.value;
            reader.read();
            return reader.kind == Reader.END || reader.fail(1);
        }

        boolean parseMoves(int n) {
            reader.open(n);
            count = 0;
            for (int k = 0; k <= MOST_MOVES; k++) {
                if (!readMove()) {
                    return false;
                }
                if (reader.kind == Reader.END) {
                    return true;
                }
            }
            return false;
        }

        private boolean readMove() {
            int first = count;
            int here = readPoint('b', 'a', 'r', BAR);
            if (here == NONE) {
                return false;
            }
            reader.read();
            for (int k = 0; k <= MOST_MOVES; k++) {
                here = readStep(here);
                if (here == NONE) {
                    return false;
                }
                if (!reader.isSign('/')) {
                    return !reader.isSign('(') || readTimes(first);
                }
            }
            return false;
        }

        /** A POINT 1 to 24, or the one that this word names; NONE behind a FAULT. */
        private int readPoint(char a, char b, char c, int named) {
            if (reader.isWord(a, b, c)) {
                return named;
            }
            return reader.isNumber(1, BAR - 1) ? reader.value : NONE;
        }

        private int readStep(int here) {
            if (!reader.passSign('/')) {
                return NONE;
            }
            int there = readPoint('o', 'f', 'f', OFF);
            if (there == NONE) {
                return NONE;
            }
            if (count >= MOST_MOVES) {
                reader.fail(7);
                return NONE;
            }
            reader.read();
            boolean starred = reader.isSign('*');
            if (starred) {
                reader.read();
            }
            addMove(here, there, starred);
            return there;
        }

        private boolean readTimes(int first) {
            reader.read();
            if (!reader.isNumber(2, 4)) {
                return false;
            }
            int last = count;
            if (last + (last - first) * (reader.value - 1) > MOST_MOVES) {
                return reader.fail(7);
            }
            for (int time = 1; time < reader.value; time++) {
                for (int k = first; k < last; k++) {
                    addMove(from[k], to[k], false);
                }
            }
            reader.read();
            return reader.passSign(')');
        }

        private void addMove(int here, int there, boolean starred) {
            if (count < MOST_MOVES) {
                from[count] = here;
                to[count] = there;
                star[count] = starred;
                count++;
            }
        }
    }

    /** The RESULTS of a POSITION with two dice, in their order, each with its WAY. */
    private static final class Results {
        private static final int CELLS = 5;
        private static final int WAY = 4;
        private static final int FEW = 48;
        private static final int MOST_MOVES = 4;

        private final Board board;
        private final long[] key = new long[WAY];
        private final boolean[] hits = new boolean[MOST_MOVES];
        // Slots of CELLS numbers: four that order the POSITION, and the WAY, ten bits a MOVE.
        private long[] cells = new long[FEW * CELLS];
        private int[] order = new int[FEW];
        private int weight;
        private int mover;
        int count;
        boolean starsFit;

        Results(Board board) {
            this.board = board;
        }

        void forget() {
            count = 0;
        }

        /**
         * The weight of a row says which rows are PLAYS: those of the greatest weight there is. It is
         * twice the number of MOVES, one more for a single MOVE by the greater of unlike dice.
         */
        void workOut(int a, int b) {
            count = 0;
            weight = 0;
            mover = board.turn;
            if (board.isOver()) {
                record(0, 0);
            } else if (a == b) {
                extend(a, 0, BAR, 0);
            } else {
                goByBoth(Math.max(a, b), Math.min(a, b));
                goByBoth(Math.min(a, b), Math.max(a, b));
            }
        }

        /**
         * Rows of alike dice, each from no higher POINT than the MOVE ahead: every row can be brought
         * in this order, it comes to the same POSITION then, and it is the WAY.
         */
        private void extend(int die, int depth, int top, long row) {
            boolean moved = false;
            for (int from = 1; from <= top && depth < MOST_MOVES; from++) {
                if (board.canMove(from, die)) {
                    int to = Math.max(from - die, OFF);
                    boolean hit = board.move(from, to);
                    extend(die, depth + 1, from, withMove(row, depth, from, to));
                    board.unmove(from, to, hit);
                    moved = true;
                }
            }
            if (!moved) {
                record(row, 2 * depth);
            }
        }

        private void goByBoth(int first, int second) {
            boolean moved = false;
            for (int from = 1; from <= BAR; from++) {
                if (board.canMove(from, first)) {
                    int to = Math.max(from - first, OFF);
                    boolean hit = board.move(from, to);
                    goOnBy(second, withMove(0, 0, from, to), first > second ? 3 : 2);
                    board.unmove(from, to, hit);
                    moved = true;
                }
            }
            if (!moved) {
                record(0, 0);
            }
        }

        private void goOnBy(int second, long row, int weightAlone) {
            boolean moved = false;
            for (int from = 1; from <= BAR; from++) {
                if (board.canMove(from, second)) {
                    int to = Math.max(from - second, OFF);
                    boolean hit = board.move(from, to);
                    record(withMove(row, 1, from, to), 4);
                    board.unmove(from, to, hit);
                    moved = true;
                }
            }
            if (!moved) {
                record(row, weightAlone);
            }
        }

        private static long withMove(long row, int depth, int from, int to) {
            long code = 32 * from + to;
            return row | code << 10 * (MOST_MOVES - 1 - depth);
        }

        private void record(long row, int itsWeight) {
            if (itsWeight < weight) {
                return;
            }
            if (itsWeight > weight) {
                weight = itsWeight;
                count = 0;
            }
            makeKey();
            int place = placeOfKey();
            if (place < count && compareKey(order[place]) == 0) {
                int cell = order[place] * CELLS + WAY;
                cells[cell] = Math.max(cells[cell], row);
            } else {
                insert(place, row);
            }
        }

        private void insert(int place, long row) {
            if (count >= order.length) {
                order = Arrays.copyOf(order, 2 * order.length);
                cells = Arrays.copyOf(cells, 2 * cells.length);
            }
            System.arraycopy(key, 0, cells, count * CELLS, WAY);
            cells[count * CELLS + WAY] = row;
            System.arraycopy(order, place, order, place + 1, count - place);
            order[place] = count;
            count++;
        }

        private void makeKey() {
            key[0] = board.half(mover, BAR);
            key[1] = board.half(mover, BAR / 2);
            key[2] = board.half(1 - mover, BAR);
            key[3] = board.half(1 - mover, BAR / 2);
        }

        /** Where the POSITION of the key stands among the RESULTS, or would stand. */
        private int placeOfKey() {
            int low = 0;
            int high = count;
            for (int step = 0; step < 32 && low < high; step++) {
                int middle = (low + high) >>> 1;
                if (compareKey(order[middle]) < 0) {
                    high = middle;
                } else if (compareKey(order[middle]) > 0) {
                    low = middle + 1;
                } else {
                    return middle;
                }
            }
            return low;
        }

        /** Below 0 if the key comes ahead of the slot's POSITION. */
        private int compareKey(int slot) {
            for (int k = 0; k < WAY; k++) {
                long there = cells[slot * CELLS + k];
                if (key[k] != there) {
                    return key[k] > there ? -1 : 1;
                }
            }
            return 0;
        }

        int menOf(int i, int player, int point) {
            int half = (player == mover ? 0 : 2) + (point > BAR / 2 ? 0 : 1);
            int lowest = point > BAR / 2 ? BAR / 2 + 1 : OFF;
            return (int) (cells[order[i] * CELLS + half] >>> 4 * (point - lowest)) & 15;
        }

        int moveOf(int i, int k) {
            if (k < 0 || k >= MOST_MOVES) {
                return NONE;
            }
            int code = (int) (cells[order[i] * CELLS + WAY] >>> 10 * (MOST_MOVES - 1 - k)) & 1023;
            return code == 0 ? NONE : code;
        }

        void putOnBoard(int i) {
            int cell = order[i] * CELLS;
            board.putHalf(mover, BAR, cells[cell]);
            board.putHalf(mover, BAR / 2, cells[cell + 1]);
            board.putHalf(1 - mover, BAR, cells[cell + 2]);
            board.putHalf(1 - mover, BAR / 2, cells[cell + 3]);
            board.turn = 1 - mover;
        }

        /** The RESULT that these MOVES come to; NONE if they are no PLAY with these dice. */
        int numberOf(Texts text, int a, int b) {
            int number = numberBy(text, a, b);
            return number == NONE && a != b ? numberBy(text, b, a) : number;
        }

        private int numberBy(Texts text, int first, int second) {
            int most = first == second ? MOST_MOVES : 2;
            if (text.count > most) {
                return NONE;
            }
            int gone = 0;
            while (gone < text.count && goAsTold(text, gone, gone == 0 ? first : second)) {
                gone++;
            }
            int number = NONE;
            int alone = gone == 1 && first > second ? 1 : 0;
            if (gone == text.count && 2 * gone + alone == weight) {
                makeKey();
                number = placeOfKey();
                compareStars(text);
            }
            for (int k = gone - 1; k >= 0; k--) {
                board.unmove(text.from[k], text.to[k], hits[k]);
            }
            return number;
        }

        private boolean goAsTold(Texts text, int k, int die) {
            int from = text.from[k];
            int to = text.to[k];
            if (Math.max(from - die, OFF) != to || !board.canMove(from, die)) {
                return false;
            }
            hits[k] = board.move(from, to);
            return true;
        }

        private void compareStars(Texts text) {
            starsFit = true;
            for (int k = 0; k < text.count; k++) {
                starsFit = starsFit && text.star[k] == hits[k];
            }
        }
    }

    /** The STATE of a match, its SCORES and its CUBE. */
    private static final class Match {
        static final int NO_MATCH = 0;
        static final int FIRST_DICE = 1;
        static final int DICE = 2;
        static final int RESULT = 3;
        static final int DOUBLED = 4;
        static final int GAME_OVER = 5;
        static final int MATCH_OVER = 6;
        private static final int LAST_CUBE = 64;

        private final int[] scores = new int[2];
        private int target;
        private int owner = NONE;
        private boolean crawford;
        private boolean crawfordIsNext;
        private boolean crawfordWasSet;
        private int games;
        private int rollsSoFar;
        private int lastWorth;
        private int lastWinner = NONE;
        private int greater;
        private int lesser;
        int state;
        int cube = 1;

        boolean isUnderWay() {
            return state != NO_MATCH && state != MATCH_OVER;
        }

        void open(int points) {
            target = points;
            scores[0] = 0;
            scores[1] = 0;
            games = 0;
            rollsSoFar = 0;
            lastWorth = 0;
            lastWinner = NONE;
            crawfordIsNext = false;
            crawfordWasSet = false;
        }

        void openGame() {
            state = FIRST_DICE;
            cube = 1;
            owner = NONE;
            crawford = crawfordIsNext;
            crawfordIsNext = false;
            games++;
            setDice(0, 0);
        }

        private void setDice(int a, int b) {
            greater = Math.max(a, b);
            lesser = Math.min(a, b);
        }

        void takeFirstDice(int a, int b, Board board) {
            if (a == b) {
                rollsSoFar++;
            } else {
                board.turn = a > b ? 0 : 1;
                takeDice(a, b);
            }
        }

        void takeDice(int a, int b) {
            rollsSoFar++;
            setDice(a, b);
            state = RESULT;
        }

        boolean areDue(int a, int b) {
            return state == RESULT && Math.max(a, b) == greater && Math.min(a, b) == lesser;
        }

        /** A RESULT has been chosen and is on the board. */
        void goOn(Board board) {
            setDice(0, 0);
            if (board.hasAllOff(0)) {
                end(0, cube * timesWon(board, 1));
            } else if (board.hasAllOff(1)) {
                end(1, cube * timesWon(board, 0));
            } else {
                state = DICE;
            }
        }

        private static int timesWon(Board board, int loser) {
            if (board.count(loser, OFF) > 0) {
                return 1;
            }
            return board.highest(loser) > 18 ? 3 : 2;
        }

        boolean mayDouble(int player) {
            return state == DICE && (owner == NONE || owner == player) && cube < LAST_CUBE && !crawford;
        }

        void takeDouble(int doubler) {
            cube = 2 * cube;
            owner = 1 - doubler;
            state = DICE;
        }

        void end(int winner, int worth) {
            scores[winner] += worth;
            lastWorth = worth;
            lastWinner = winner;
            state = target > 0 && scores[winner] >= target ? MATCH_OVER : GAME_OVER;
            if (target >= 2 && scores[winner] == target - 1 && !crawfordWasSet) {
                crawfordIsNext = true;
                crawfordWasSet = true;
            }
        }

        int tell(int what) {
            switch (what) {
                case 0: return state;
                case 1: return scores[0];
                case 2: return scores[1];
                case 3: return cube;
                case 4: return owner;
                case 5: return crawford ? 1 : 0;
                case 6: return games;
                case 7: return rollsSoFar;
                case 8: return lastWorth;
                case 9: return lastWinner;
                case 10: return greater;
                default: return lesser;
            }
        }
    }

    /** A whole number from 0 up to 2 to the 186th: parts of 31 bits, the lowest first. */
    private static final class Whole {
        static final int PARTS = 6;
        private static final int BITS = 31;
        private static final long MASK = (1L << BITS) - 1;

        final long[] parts = new long[PARTS];

        void set(long value) {
            Arrays.fill(parts, 0);
            parts[0] = value & MASK;
            parts[1] = value >>> BITS & MASK;
            parts[2] = value >>> 2 * BITS;
        }

        boolean isZero() {
            for (int k = 0; k < PARTS; k++) {
                if (parts[k] != 0) {
                    return false;
                }
            }
            return true;
        }

        boolean isOne() {
            for (int k = 1; k < PARTS; k++) {
                if (parts[k] != 0) {
                    return false;
                }
            }
            return parts[0] == 1;
        }

        /** Adds the number whose PARTS stand in a row from place at on, so many times (a few). */
        void add(long[] row, int at, int times) {
            if (at < 0 || at + PARTS > row.length) {
                return;
            }
            long carry = 0;
            for (int k = 0; k < PARTS; k++) {
                carry += parts[k] + times * row[at + k];
                parts[k] = carry & MASK;
                carry >>>= BITS;
            }
        }

        void addProduct(Whole one, Whole other) {
            for (int i = 0; i < PARTS; i++) {
                long carry = 0;
                for (int k = 0; i + k < PARTS; k++) {
                    carry += parts[i + k] + one.parts[i] * other.parts[k];
                    parts[i + k] = carry & MASK;
                    carry >>>= BITS;
                }
            }
        }

        void multiply(int factor) {
            long carry = 0;
            for (int k = 0; k < PARTS; k++) {
                carry += parts[k] * factor;
                parts[k] = carry & MASK;
                carry >>>= BITS;
            }
        }

        int remainder(int divisor) {
            if (divisor < 1) {
                return 0;
            }
            long rest = 0;
            for (int k = PARTS - 1; k >= 0; k--) {
                rest = (rest << BITS | parts[k]) % divisor;
            }
            return (int) rest;
        }

        void divide(int divisor) {
            if (divisor < 1) {
                return;
            }
            long rest = 0;
            for (int k = PARTS - 1; k >= 0; k--) {
                long value = rest << BITS | parts[k];
                parts[k] = value / divisor;
                rest = value % divisor;
            }
        }
    }

    /** Prints a FRACTION on the PAGE. */
    private static final class Printer {
        private static final int MOST_DIGITS = 60;

        private final Bytes page;
        private final Whole bottom = new Whole();
        private final int[] digits = new int[MOST_DIGITS];
        final Whole top = new Whole();

        Printer(Bytes page) {
            this.page = page;
        }

        /** Prints top over 36 to the power; 2 and 3 are the only primes they can share. */
        void print(int power) {
            page.size = 0;
            bottom.set(1);
            if (!top.isZero()) {
                reduce(2, 2 * power);
                reduce(3, 2 * power);
            }
            boolean whole = bottom.isOne();
            printWhole(top);
            if (!whole) {
                page.add('/');
                printWhole(bottom);
            }
        }

        private void reduce(int prime, int power) {
            int left = power;
            while (left > 0 && top.remainder(prime) == 0) {
                top.divide(prime);
                left--;
            }
            for (int k = 0; k < left; k++) {
                bottom.multiply(prime);
            }
        }

        private void printWhole(Whole number) {
            int count = 0;
            do {
                digits[count] = number.remainder(10);
                number.divide(10);
                count++;
            } while (count < MOST_DIGITS && !number.isZero());
            for (int k = count - 1; k >= 0; k--) {
                page.add('0' + digits[k]);
            }
        }
    }

    /** What has been worked out of some neighbouring STANDS: for each its ROLLS and its chances. */
    private static final class Shelf {
        static final int STANDS = 64;
        static final int CELLS = Whole.PARTS + LAST_ROLL;

        final long[] cells = new long[STANDS * CELLS];
    }

    /**
     * Bearing off. A STAND is worked out when it is first asked for, with all that can come behind it.
     * ROLLS are kept times 36 to the SCALE, chances within n rolls times 36 to the n: whole numbers.
     */
    private static final class Stands {
        static final int SCALE = 32;
        private static final int ALL = 54264;
        private static final int SHELVES = ALL / Shelf.STANDS + 1;

        private final Shelf[] shelves = new Shelf[SHELVES];
        // ranks[16 * k + m]: in how many ways fewer than m MEN can stand on k POINTS.
        private final int[] ranks = new int[16 * (HOME + 1)];
        private final long[] powers = new long[LAST_ROLL + 1];
        private final long[] tally = new long[LAST_ROLL];
        private final Whole one = new Whole();
        private final Whole sum = new Whole();
        private final Whole factor = new Whole();
        private int pickedStand;
        private int pickedCell;
        private Shelf pickedShelf;

        Stands() {
            for (int m = 0; m < 16; m++) {
                ranks[m] = 1;
            }
            for (int k = 1; k <= HOME; k++) {
                for (int m = 1; m < 16; m++) {
                    ranks[16 * k + m] = ranks[16 * k + m - 1] + ranks[16 * (k - 1) + m];
                }
            }
            powers[0] = 1;
            for (int n = 1; n <= LAST_ROLL; n++) {
                powers[n] = 36 * powers[n - 1];
            }
            one.set(1);
            for (int k = 0; k < SCALE; k++) {
                one.multiply(36);
            }
        }

        static boolean isStand(int stand) {
            return stand >= 0 && stand >> 4 * HOME == 0 && menFrom(stand, 1) <= MEN;
        }

        static int pips(int stand) {
            int sum = 0;
            for (int point = 1; point <= HOME; point++) {
                sum += menFrom(stand, point);
            }
            return sum;
        }

        /** How many MEN are on this POINT and above. */
        private static int menFrom(int stand, int point) {
            int sum = 0;
            for (int p = point; p <= HOME; p++) {
                sum += stand >> 4 * (p - 1) & 15;
            }
            return sum;
        }

        /** How many STANDS with no MAN above the POINT, of so many MEN at most, have just these PIPS. */
        private static int howMany(int point, int most, int pips) {
            if (pips == 0) {
                return 1;
            }
            if (point < 1 || point * most < pips) {
                return 0;
            }
            if (point == 1) {
                return 1;
            }
            int sum = 0;
            for (int here = 0; here <= most && here * point <= pips; here++) {
                sum += howMany(point - 1, most - here, pips - here * point);
            }
            return sum;
        }

        /** Works out all STANDS none of whose MEN is above the one of this STAND. */
        void workOut(int stand) {
            if (isWorkedOut(stand)) {
                return;
            }
            int at = 0;
            for (int k = 0; k < ALL && at != NONE; k++) {
                if (!isWorkedOut(at)) {
                    settle(at);
                }
                at = following(at, stand);
            }
        }

        /** The next greater one of these STANDS: MOVES lead to lesser numbers, so those come first. */
        private static int following(int stand, int bound) {
            for (int point = 1; point <= HOME; point++) {
                if (menFrom(stand, point) < menFrom(bound, point)) {
                    int shift = 4 * (point - 1);
                    return (stand >> shift) + 1 << shift;
                }
            }
            return NONE;
        }

        /** Each STAND's number in a row without gaps, from 0 up to ALL. */
        private int rankOf(int stand) {
            int men = 0;
            int rank = 0;
            for (int k = 1; k <= HOME; k++) {
                men += stand >> 4 * (HOME - k) & 15;
                rank += ranks[16 * k + (men & 15)];
            }
            return rank;
        }

        private static int cellOf(int rank) {
            return rank % Shelf.STANDS * Shelf.CELLS;
        }

        private Shelf shelfOf(int rank) {
            int k = rank / Shelf.STANDS;
            return k < SHELVES ? shelves[k] : null;
        }

        /** Four times 6 and 6 end every STAND, so a chance within 12 rolls is 0 only when it is not known. */
        private boolean isWorkedOut(int stand) {
            return chances(stand, LAST_ROLL) > 0;
        }

        /** 36 to the n times WITHIN n. */
        long chances(int stand, int n) {
            if (n < 1 || n > LAST_ROLL) {
                return stand == 0 ? 1 : 0;
            }
            int rank = rankOf(stand);
            Shelf shelf = shelfOf(rank);
            return shelf == null ? 0 : shelf.cells[cellOf(rank) + Whole.PARTS + n - 1];
        }

        boolean isSure(int stand) {
            return chances(stand, LAST_ROLL) == powers[LAST_ROLL];
        }

        void putRolls(int stand, Whole number) {
            int rank = rankOf(stand);
            Shelf shelf = shelfOf(rank);
            number.set(0);
            if (shelf != null) {
                number.add(shelf.cells, cellOf(rank), 1);
            }
        }

        private void settle(int stand) {
            sum.set(0);
            if (stand == 0) {
                System.arraycopy(powers, 1, tally, 0, LAST_ROLL);
            } else {
                Arrays.fill(tally, 0);
                for (int a = 1; a <= 6; a++) {
                    for (int b = a; b <= 6; b++) {
                        count(pick(stand, a, b), a == b ? 1 : 2);
                    }
                }
                sum.divide(36);
                sum.add(one.parts, 0, 1);
            }
            store(stand);
        }

        private void count(int stand, int times) {
            int rank = rankOf(stand);
            Shelf shelf = shelfOf(rank);
            if (shelf == null) {
                return;
            }
            int cell = cellOf(rank);
            sum.add(shelf.cells, cell, times);
            tally[0] += stand == 0 ? times : 0;
            for (int n = 1; n < LAST_ROLL; n++) {
                tally[n] += times * shelf.cells[cell + Whole.PARTS + n - 1];
            }
        }

        private void store(int stand) {
            int rank = rankOf(stand);
            int k = rank / Shelf.STANDS;
            if (k >= SHELVES) {
                return;
            }
            if (shelves[k] == null) {
                shelves[k] = new Shelf();
            }
            long[] cells = shelves[k].cells;
            System.arraycopy(sum.parts, 0, cells, cellOf(rank), Whole.PARTS);
            System.arraycopy(tally, 0, cells, cellOf(rank) + Whole.PARTS, LAST_ROLL);
        }

        /**
         * BEST of a STAND all of whose RESULTS are worked out. Rows that end before the dice are used up
         * have no MAN left, and then no row leaves one: so none has to be passed over as too short.
         */
        int pick(int stand, int a, int b) {
            if (stand == 0) {
                return 0;
            }
            pickedStand = NONE;
            if (a == b) {
                bearAlike(stand, a, 4, HOME);
            } else {
                bearByBoth(stand, a, b);
                bearByBoth(stand, b, a);
            }
            return pickedStand;
        }

        private static boolean canBear(int stand, int point, int die) {
            return (stand >> 4 * (point - 1) & 15) > 0 && (point >= die || stand >> 4 * point == 0);
        }

        private static int bear(int stand, int point, int die) {
            int rest = stand - (1 << 4 * (point - 1));
            return point > die ? rest + (1 << 4 * (point - die - 1)) : rest;
        }

        /** Rows from no higher POINT than the MOVE ahead: they come to all RESULTS. */
        private void bearAlike(int stand, int die, int left, int top) {
            if (stand == 0 || left == 0) {
                consider(stand);
                return;
            }
            for (int point = 1; point <= top; point++) {
                if (canBear(stand, point, die)) {
                    bearAlike(bear(stand, point, die), die, left - 1, point);
                }
            }
        }

        private void bearByBoth(int stand, int first, int second) {
            for (int point = 1; point <= HOME; point++) {
                if (canBear(stand, point, first)) {
                    int rest = bear(stand, point, first);
                    if (rest == 0) {
                        consider(rest);
                    }
                    for (int other = 1; other <= HOME; other++) {
                        if (canBear(rest, other, second)) {
                            consider(bear(rest, other, second));
                        }
                    }
                }
            }
        }

        /** Keeps this RESULT if it has less ROLLS, or as many and is ahead in order: the greater number. */
        private void consider(int stand) {
            if (stand == pickedStand) {
                return;
            }
            int rank = rankOf(stand);
            Shelf shelf = shelfOf(rank);
            if (shelf == null) {
                return;
            }
            int cell = cellOf(rank);
            if (pickedStand != NONE && pickedShelf != null) {
                int order = compareRolls(shelf.cells, cell, pickedShelf.cells, pickedCell);
                if (order > 0 || order == 0 && stand < pickedStand) {
                    return;
                }
            }
            pickedStand = stand;
            pickedShelf = shelf;
            pickedCell = cell;
        }

        private static int compareRolls(long[] row, int at, long[] otherRow, int otherAt) {
            for (int k = Whole.PARTS - 1; k >= 0; k--) {
                if (row[at + k] != otherRow[otherAt + k]) {
                    return row[at + k] < otherRow[otherAt + k] ? -1 : 1;
                }
            }
            return 0;
        }

        /**
         * Puts 36 to the 24th times RACE, by the roll at which the first has none left. If it has none
         * to begin with, that counts for roll 1: the second, having some, is not ahead of that either.
         */
        void putRace(int first, int second, Whole number) {
            number.set(0);
            long before = 0;
            for (int n = 1; n <= LAST_ROLL; n++) {
                long by = chances(first, n) * powers[LAST_ROLL - n];
                long rivals = chances(second, n - 1) * powers[LAST_ROLL - n + 1];
                sum.set(by - before);
                factor.set(powers[LAST_ROLL] - rivals);
                number.addProduct(sum, factor);
                before = by;
            }
        }
    }
}
