import java.util.Arrays;

/**
 * A pachinko board whose reel pockets are held open when three reels agree.
 * What each call answers is told in DOC.md, by numbered promises.
 */
public final class PachinkoReels {
    public static final int NONE = -1;

    private static final int ROWS = 8;
    private static final int COLUMNS = 7;
    private static final int PINS = ROWS * COLUMNS;
    private static final int POCKETS = 7;
    private static final int REELS = 3;

    // A board holds its numbers in the order in which count() tells them.
    private static final int HAND = 0;
    private static final int BOUGHT = 1;
    private static final int LAUNCHES = 2;
    private static final int PAID = 3;
    private static final int UNPAID_SHUT = 4;
    private static final int UNPAID_ZERO = 5;
    private static final int WAITING = 6;
    private static final int SPINS = 7;
    private static final int JACKPOTS = 8;
    private static final int HELD = 9;
    private static final int STREAK = 10;
    private static final int LATEST_POCKET = 11;
    private static final int START_POCKET = 12;
    private static final int X = 13;
    private static final int SETTING_HELD = 14;
    private static final int SETTING_STREAK = 15;
    private static final int BENT = 16;
    private static final int NUMBERS = 17;
    private static final int SAVED_STATES = 17;

    private static final int MOST_NUMBER = 2147483647;

    private static final int SETTINGS = 2;
    private static final int MOST_HELD = 10;
    private static final int MOST_STREAK = 20;

    private static final int REEL = 1;
    private static final int TULIP = 2;
    private static final int MOST_PAY = 15;
    private static final int[] FIRST_KINDS = {0, 2, 1, 0, 1, 2, 0};
    private static final int[] FIRST_PAYS = {0, 3, 10, 2, 10, 3, 0};

    private static final int IS_KIND = 0;
    private static final int IS_PAY = 1;
    private static final int IS_OPEN = 2;
    private static final int IS_CAME = 3;
    private static final int IS_PAID = 4;

    private static final int WOULD_REACH = 0;
    private static final int WOULD_PAY = 1;
    private static final int WOULD_WAIT = 2;
    private static final int WOULD_HOLD = 3;

    private static final int MOST_BOUGHT = 99;
    private static final int MOST_PLAYED = 30;
    private static final int MOST_WAITING = 4;
    private static final int MOST_LAUNCHES_TRIED = 200;
    private static final int MOST_SAVED = 6;
    private static final int MOST_CHARACTERS = 60;

    private static final long FIRST_HASH = 3677L;
    private static final long TWO_TO_52 = 1L << 52;

    private final Board board = new Board();
    private final Board tried = new Board();
    private final History history = new History();
    private final Text text = new Text();
    private final Paths paths = new Paths();
    private Board snapshot = null;

    public PachinkoReels() {
    }

    // ---- the board

    public int bend(int row, int column, int to)
            throws IndexOutOfBoundsException, IllegalArgumentException {
        checkIndex(row, ROWS);
        checkIndex(column, COLUMNS);
        checkValue(to, -1, 1);
        history.save(board);
        return board.bendPin(row * COLUMNS + column, to) + 1;
    }

    public int pocket(int pocket, int kind, int pay)
            throws IndexOutOfBoundsException, IllegalArgumentException {
        checkIndex(pocket, POCKETS);
        checkValue(kind, 0, TULIP);
        checkValue(pay, 0, MOST_PAY);
        history.save(board);
        return board.changePocket(pocket, kind, pay);
    }

    public int start(int pocket) throws IndexOutOfBoundsException {
        checkIndex(pocket, POCKETS);
        history.save(board);
        return board.change(START_POCKET, pocket);
    }

    public int set(int setting, int value)
            throws IndexOutOfBoundsException, IllegalArgumentException {
        checkIndex(setting, SETTINGS);
        if (setting == 0) {
            checkValue(value, 1, MOST_HELD);
        } else {
            checkValue(value, 0, MOST_STREAK);
        }
        history.save(board);
        return board.change(SETTING_HELD + setting, value);
    }

    public int shuffle(int number) throws IllegalArgumentException {
        checkValue(number, 0, MOST_NUMBER);
        history.save(board);
        return board.change(X, number);
    }

    // ---- balls

    public int buy(int balls) throws IllegalArgumentException {
        checkValue(balls, 1, MOST_BOUGHT);
        history.save(board);
        board.buyBalls(balls);
        return board.numbers[HAND];
    }

    public int launch(int column) throws IndexOutOfBoundsException, IllegalStateException {
        checkIndex(column, COLUMNS);
        if (board.numbers[HAND] == 0) {
            throw new IllegalStateException("no ball is in the hand");
        }
        history.save(board);
        board.launchBall(column);
        return board.numbers[LATEST_POCKET];
    }

    public int play(int column, int balls)
            throws IndexOutOfBoundsException, IllegalArgumentException {
        checkIndex(column, COLUMNS);
        checkValue(balls, 1, MOST_PLAYED);
        history.save(board);
        return board.launchBalls(column, balls);
    }

    // ---- texts

    public int append(int code) throws IllegalArgumentException, IllegalStateException {
        checkValue(code, 33, 126);
        if (!text.add(code)) {
            throw new IllegalStateException("the buffer is full");
        }
        return text.length;
    }

    public int clearBuffer() {
        return text.clear();
    }

    public int firstError() {
        return text.placeOfError();
    }

    public int work() throws IllegalArgumentException {
        if (!text.isComplete()) {
            throw new IllegalArgumentException("the buffer is not complete works");
        }
        history.save(board);
        int paid = 0;
        int from = 0;
        for (int place = 0; place <= text.length; place++) {
            if (text.endsPart(place)) {
                paid += doPart(from, place);
                from = place + 1;
            }
        }
        text.clear();
        return paid;
    }

    // ---- undo, the snapshot

    public int undo() throws IllegalStateException {
        if (!history.takeLatest(board)) {
            throw new IllegalStateException("no state is saved");
        }
        return history.size;
    }

    public int keep() {
        if (snapshot == null) {
            snapshot = new Board();
        }
        snapshot.copyFrom(board);
        return board.numbers[HAND];
    }

    public int restore() throws IllegalStateException {
        if (snapshot == null) {
            throw new IllegalStateException("there is no snapshot");
        }
        history.save(board);
        board.copyFrom(snapshot);
        return board.numbers[HAND];
    }

    // ---- looks; nothing is changed

    public int pin(int row, int column) throws IndexOutOfBoundsException {
        checkIndex(row, ROWS);
        checkIndex(column, COLUMNS);
        return board.pins[row * COLUMNS + column] + 1;
    }

    public int bent(int place) throws IllegalArgumentException {
        checkValue(place, 0, MOST_NUMBER);
        return board.bentPin(place);
    }

    public int touched(int place) throws IllegalArgumentException {
        checkValue(place, 0, ROWS - 1);
        return board.touchedPins[place];
    }

    public int pocketOf(int pocket, int what)
            throws IndexOutOfBoundsException, IllegalArgumentException {
        checkIndex(pocket, POCKETS);
        checkValue(what, IS_KIND, IS_PAID);
        return board.tellPocket(pocket, what);
    }

    public int reel(int reel) throws IndexOutOfBoundsException {
        checkIndex(reel, REELS);
        return board.signs[reel];
    }

    public int count(int what) throws IllegalArgumentException {
        checkValue(what, 0, SAVED_STATES);
        return what == SAVED_STATES ? history.size : board.numbers[what];
    }

    // ---- what would be; nothing is changed

    public int ways(int column, int pocket) throws IndexOutOfBoundsException {
        checkIndex(column, COLUMNS);
        checkIndex(pocket, POCKETS);
        paths.countByRows(board.pins, column);
        return paths.counted[pocket];
    }

    public int walked(int column, int pocket) throws IndexOutOfBoundsException {
        checkIndex(column, COLUMNS);
        checkIndex(pocket, POCKETS);
        paths.goAllWays(board.pins, column);
        return paths.gone[pocket];
    }

    public int ifLaunched(int column, int what)
            throws IndexOutOfBoundsException, IllegalArgumentException {
        checkIndex(column, COLUMNS);
        checkValue(what, WOULD_REACH, WOULD_HOLD);
        tryLaunch(column);
        return tellTried(what);
    }

    public int bestColumn() {
        int best = 0;
        int most = NONE;
        for (int column = 0; column < COLUMNS; column++) {
            int measured = measurePays(column);
            if (measured > most) {
                best = column;
                most = measured;
            }
        }
        return best;
    }

    public int untilOpen(int column) throws IndexOutOfBoundsException {
        checkIndex(column, COLUMNS);
        return tryUntilHeld(column);
    }

    public double payback() {
        int launches = board.numbers[LAUNCHES];
        return launches > 0 ? (double) board.numbers[PAID] / launches : 0.0;
    }

    public long digest() {
        long hash = hashAll(FIRST_HASH, board.numbers, NUMBERS);
        hash = hashOne(hash, history.size);
        hash = hashBoard(hash);
        for (int column = 0; column < COLUMNS; column++) {
            hash = hashColumn(hash, column);
        }
        hash = hashOne(hash, bestColumn());
        hash = hashOne(hash, bitsOf(payback()));
        hash = hashOne(hash, text.length);
        return hashAll(hash, text.codes, text.length);
    }

    // ---- what the face is made of

    private static void checkIndex(int index, int size) {
        if (index < 0 || index >= size) {
            throw new IndexOutOfBoundsException("there is no such thing on the board");
        }
    }

    private static void checkValue(int value, int least, int most) {
        if (value < least || value > most) {
            throw new IllegalArgumentException("the value is out of range");
        }
    }

    private int doPart(int from, int end) {
        switch (text.codeAt(from)) {
            case 'l':
                int launchColumn = text.digitBelow(COLUMNS, from + 1);
                return board.launchBalls(launchColumn, text.numberIn(from + 3, end));
            case 'b':
                int pin = text.digitBelow(ROWS, from + 1) * COLUMNS + text.digitBelow(COLUMNS, from + 2);
                board.bendPin(pin, text.bendAt(from + 3));
                return 0;
            default:
                board.buyBalls(text.numberIn(from + 1, end));
                return 0;
        }
    }

    private void tryLaunch(int column) {
        tried.copyFrom(board);
        tried.launchBall(column);
    }

    private int tellTried(int what) {
        switch (what) {
            case WOULD_REACH:
                return tried.numbers[LATEST_POCKET];
            case WOULD_PAY:
                return tried.numbers[PAID] - board.numbers[PAID];
            case WOULD_WAIT:
                return tried.numbers[WAITING];
            default:
                return tried.numbers[HELD];
        }
    }

    private int tryUntilHeld(int column) {
        if (board.isHeldOpen()) {
            return 0;
        }
        tried.copyFrom(board);
        for (int launches = 1; launches <= MOST_LAUNCHES_TRIED; launches++) {
            tried.launchBall(column);
            if (tried.isHeldOpen()) {
                return launches;
            }
        }
        return NONE;
    }

    private int measurePays(int column) {
        paths.countByRows(board.pins, column);
        int all = 0;
        int sum = 0;
        for (int pocket = 0; pocket < POCKETS; pocket++) {
            all += paths.counted[pocket];
            if (board.isOpen(pocket)) {
                sum += paths.counted[pocket] * board.pays[pocket];
            }
        }
        return all > 0 ? sum * 1000 / all : 0;
    }

    // ---- the hash

    private static long hashOne(long hash, long value) {
        return 31 * hash + value;
    }

    private static long hashAll(long hash, int[] values, int size) {
        long result = hash;
        for (int i = 0; i < size && i < values.length; i++) {
            result = hashOne(result, values[i]);
        }
        return result;
    }

    private long hashBoard(long hash) {
        long result = hash;
        for (int pin = 0; pin < PINS; pin++) {
            result = hashOne(result, board.pins[pin] + 1);
        }
        result = hashAll(result, board.bentPins, board.numbers[BENT]);
        result = hashAll(result, board.touchedPins, ROWS);
        for (int pocket = 0; pocket < POCKETS; pocket++) {
            for (int what = IS_KIND; what <= IS_PAID; what++) {
                result = hashOne(result, board.tellPocket(pocket, what));
            }
        }
        return hashAll(result, board.signs, REELS);
    }

    private long hashColumn(long hash, int column) {
        long result = hash;
        paths.countByRows(board.pins, column);
        paths.goAllWays(board.pins, column);
        for (int pocket = 0; pocket < POCKETS; pocket++) {
            result = hashOne(result, paths.counted[pocket]);
            result = hashOne(result, paths.gone[pocket]);
        }
        tryLaunch(column);
        for (int what = WOULD_REACH; what <= WOULD_HOLD; what++) {
            result = hashOne(result, tellTried(what));
        }
        return hashOne(result, tryUntilHeld(column));
    }

    // The library's own doubleToLongBits is outside the language; a share is
    // never negative and its exponent never leaves that of an int.
    private static long bitsOf(double share) {
        if (share <= 0.0) {
            return 0L;
        }
        double part = share;
        long exponent = 1023L;
        for (int i = 0; i < 64 && part >= 2.0; i++) {
            part = part / 2.0;
            exponent++;
        }
        for (int i = 0; i < 64 && part < 1.0; i++) {
            part = part * 2.0;
            exponent--;
        }
        return exponent * TWO_TO_52 + (long) ((part - 1.0) * (double) TWO_TO_52);
    }

    // A step that would leave the board is not made.
    private static int bounce(int column, int step) {
        int next = column + step;
        return next < 0 || next >= COLUMNS ? column : next;
    }

    /** A state: all that undo and the snapshot bring back. */
    private static final class Board {
        final int[] numbers = new int[NUMBERS];
        final int[] pins = new int[PINS];
        final int[] bentPins = new int[PINS];
        final int[] touchedPins = new int[ROWS];
        final int[] kinds = new int[POCKETS];
        final int[] pays = new int[POCKETS];
        final int[] openTulips = new int[POCKETS];
        final int[] came = new int[POCKETS];
        final int[] paidBy = new int[POCKETS];
        final int[] signs = new int[REELS];

        Board() {
            numbers[LATEST_POCKET] = NONE;
            numbers[START_POCKET] = 3;
            numbers[X] = 1;
            numbers[SETTING_HELD] = 6;
            numbers[SETTING_STREAK] = 8;
            Arrays.fill(touchedPins, NONE);
            System.arraycopy(FIRST_KINDS, 0, kinds, 0, POCKETS);
            System.arraycopy(FIRST_PAYS, 0, pays, 0, POCKETS);
            for (int reel = 0; reel < REELS; reel++) {
                signs[reel] = reel;
            }
        }

        void copyFrom(Board other) {
            System.arraycopy(other.numbers, 0, numbers, 0, NUMBERS);
            System.arraycopy(other.pins, 0, pins, 0, PINS);
            System.arraycopy(other.bentPins, 0, bentPins, 0, PINS);
            System.arraycopy(other.touchedPins, 0, touchedPins, 0, ROWS);
            System.arraycopy(other.kinds, 0, kinds, 0, POCKETS);
            System.arraycopy(other.pays, 0, pays, 0, POCKETS);
            System.arraycopy(other.openTulips, 0, openTulips, 0, POCKETS);
            System.arraycopy(other.came, 0, came, 0, POCKETS);
            System.arraycopy(other.paidBy, 0, paidBy, 0, POCKETS);
            System.arraycopy(other.signs, 0, signs, 0, REELS);
        }

        int change(int number, int value) {
            int before = numbers[number];
            numbers[number] = value;
            return before;
        }

        int bendPin(int pin, int to) {
            int before = pins[pin];
            pins[pin] = to;
            if (before == 0 && to != 0) {
                addBentPin(pin);
            } else if (before != 0 && to == 0) {
                removeBentPin(pin);
            }
            return before;
        }

        private void addBentPin(int pin) {
            int size = numbers[BENT];
            if (size < PINS) {
                bentPins[size] = pin;
                numbers[BENT] = size + 1;
            }
        }

        private void removeBentPin(int pin) {
            int size = 0;
            for (int place = 0; place < numbers[BENT]; place++) {
                if (bentPins[place] != pin) {
                    bentPins[size] = bentPins[place];
                    size++;
                }
            }
            numbers[BENT] = size;
        }

        int bentPin(int place) {
            return place < numbers[BENT] ? bentPins[place] : NONE;
        }

        int changePocket(int pocket, int kind, int pay) {
            int before = pays[pocket];
            if (kinds[pocket] != TULIP) {
                openTulips[pocket] = 0;
            }
            kinds[pocket] = kind;
            pays[pocket] = pay;
            return before;
        }

        int tellPocket(int pocket, int what) {
            switch (what) {
                case IS_KIND:
                    return kinds[pocket];
                case IS_PAY:
                    return pays[pocket];
                case IS_OPEN:
                    return isOpen(pocket) ? 1 : 0;
                case IS_CAME:
                    return came[pocket];
                default:
                    return paidBy[pocket];
            }
        }

        boolean isHeldOpen() {
            return numbers[HELD] > 0;
        }

        boolean isOpen(int pocket) {
            switch (kinds[pocket]) {
                case REEL:
                    return isHeldOpen();
                case TULIP:
                    return openTulips[pocket] == 1;
                default:
                    return true;
            }
        }

        void buyBalls(int balls) {
            numbers[HAND] += balls;
            numbers[BOUGHT] += balls;
        }

        int launchBalls(int column, int balls) {
            int paid = 0;
            for (int i = 0; i < balls && numbers[HAND] > 0; i++) {
                paid += launchBall(column);
            }
            return paid;
        }

        // The hand is not looked at here: a launch that is only tried needs no ball.
        int launchBall(int column) {
            numbers[HAND]--;
            numbers[LAUNCHES]++;
            if (numbers[WAITING] > 0 && !isHeldOpen()) {
                numbers[WAITING]--;
                spinReels();
            }
            int pocket = fallFrom(column);
            numbers[LATEST_POCKET] = pocket;
            int paid = comeTo(pocket);
            if (pocket == numbers[START_POCKET] && numbers[WAITING] < MOST_WAITING) {
                numbers[WAITING]++;
            }
            return paid;
        }

        private int drawBelow(int limit) {
            long next = (1103515245L * numbers[X] + 12345L) % 2147483648L;
            numbers[X] = (int) next;
            return limit > 0 ? (int) (next / 65536L % limit) : 0;
        }

        private void spinReels() {
            int limit = numbers[STREAK] > 0 ? 4 : 8;
            if (numbers[STREAK] > 0) {
                numbers[STREAK]--;
            }
            for (int reel = 0; reel < REELS; reel++) {
                signs[reel] = drawBelow(limit);
            }
            numbers[SPINS]++;
            if (signs[0] == signs[1] && signs[1] == signs[2]) {
                numbers[JACKPOTS]++;
                numbers[HELD] = numbers[SETTING_HELD];
                numbers[STREAK] = numbers[SETTING_STREAK];
            } else {
                numbers[HELD] = 0;
            }
        }

        private int fallFrom(int column) {
            int at = column;
            for (int row = 0; row < ROWS; row++) {
                int pin = row * COLUMNS + at;
                touchedPins[row] = pin;
                int step = pins[pin];
                if (step == 0) {
                    step = drawBelow(2) == 0 ? -1 : 1;
                }
                at = bounce(at, step);
            }
            return at;
        }

        private int comeTo(int pocket) {
            boolean open = isOpen(pocket);
            came[pocket]++;
            if (kinds[pocket] == TULIP) {
                openTulips[pocket] = open ? 0 : 1;
            } else if (kinds[pocket] == REEL && open) {
                numbers[HELD]--;
            }
            if (!open) {
                numbers[UNPAID_SHUT]++;
                return 0;
            }
            return payFrom(pocket);
        }

        private int payFrom(int pocket) {
            int pay = pays[pocket];
            if (pay == 0) {
                numbers[UNPAID_ZERO]++;
            }
            numbers[HAND] += pay;
            numbers[PAID] += pay;
            paidBy[pocket] += pay;
            return pay;
        }
    }

    /** The saved states: a ring, whose boards are made once and used again. */
    private static final class History {
        private final Board[] ring = new Board[MOST_SAVED];
        private int oldest = 0;
        int size = 0;

        void save(Board now) {
            int place = (oldest + size) % MOST_SAVED;
            if (ring[place] == null) {
                ring[place] = new Board();
            }
            ring[place].copyFrom(now);
            if (size < MOST_SAVED) {
                size++;
            } else {
                oldest = (oldest + 1) % MOST_SAVED;
            }
        }

        boolean takeLatest(Board into) {
            if (size == 0) {
                return false;
            }
            Board latest = ring[(oldest + size - 1) % MOST_SAVED];
            if (latest == null) {
                return false;
            }
            into.copyFrom(latest);
            size--;
            return true;
        }
    }

    /** The ways from a column to each pocket, counted twice. */
    private static final class Paths {
        final int[] counted = new int[COLUMNS];
        final int[] gone = new int[COLUMNS];
        private final int[] next = new int[COLUMNS];

        void countByRows(int[] pins, int column) {
            Arrays.fill(counted, 0);
            counted[column] = 1;
            for (int row = 0; row < ROWS; row++) {
                countRow(pins, row);
            }
        }

        private void countRow(int[] pins, int row) {
            Arrays.fill(next, 0);
            for (int column = 0; column < COLUMNS; column++) {
                int bend = pins[row * COLUMNS + column];
                if (bend <= 0) {
                    next[bounce(column, -1)] += counted[column];
                }
                if (bend >= 0) {
                    next[bounce(column, 1)] += counted[column];
                }
            }
            System.arraycopy(next, 0, counted, 0, COLUMNS);
        }

        void goAllWays(int[] pins, int column) {
            Arrays.fill(gone, 0);
            goOn(pins, 0, column, gone);
        }

        private static void goOn(int[] pins, int row, int column, int[] ends) {
            if (row >= ROWS) {
                ends[column]++;
                return;
            }
            int bend = pins[row * COLUMNS + column];
            if (bend <= 0) {
                goOn(pins, row + 1, bounce(column, -1), ends);
            }
            if (bend >= 0) {
                goOn(pins, row + 1, bounce(column, 1), ends);
            }
        }
    }

    /** The buffer, and works as a text. */
    private static final class Text {
        // What is due next; behind the states from DIGIT_OR_END on a part may end.
        private static final int WRONG = -1;
        private static final int PART = 0;
        private static final int LAUNCH_COLUMN = 1;
        private static final int LAUNCH_TIMES = 2;
        private static final int LAUNCH_NUMBER = 3;
        private static final int BEND_ROW = 4;
        private static final int BEND_COLUMN = 5;
        private static final int BEND_SIGN = 6;
        private static final int BUY_NUMBER = 7;
        private static final int DIGIT_OR_END = 8;
        private static final int ZERO_OR_END = 9;
        private static final int END = 10;

        final int[] codes = new int[MOST_CHARACTERS];
        int length = 0;

        boolean add(int code) {
            if (length >= MOST_CHARACTERS) {
                return false;
            }
            codes[length] = code;
            length++;
            return true;
        }

        int clear() {
            int before = length;
            length = 0;
            return before;
        }

        int placeOfError() {
            int state = PART;
            for (int place = 0; place < length; place++) {
                state = stateBehind(state, codes[place]);
                if (state == WRONG) {
                    return place;
                }
            }
            return length;
        }

        boolean isComplete() {
            int state = PART;
            for (int place = 0; place < length; place++) {
                state = stateBehind(state, codes[place]);
            }
            return state >= DIGIT_OR_END;
        }

        private static int stateBehind(int state, int code) {
            switch (state) {
                case PART:
                    return stateBehindLetter(code);
                case LAUNCH_COLUMN:
                    return code >= '0' && code <= '6' ? LAUNCH_TIMES : WRONG;
                case LAUNCH_TIMES:
                    return code == 'x' ? LAUNCH_NUMBER : WRONG;
                case LAUNCH_NUMBER:
                    return stateBehindLaunchDigit(code);
                case BEND_ROW:
                    return code >= '0' && code <= '7' ? BEND_COLUMN : WRONG;
                case BEND_COLUMN:
                    return code >= '0' && code <= '6' ? BEND_SIGN : WRONG;
                case BEND_SIGN:
                    return code == '<' || code == '|' || code == '>' ? END : WRONG;
                case BUY_NUMBER:
                    return code >= '1' && code <= '9' ? DIGIT_OR_END : WRONG;
                case DIGIT_OR_END:
                    return code >= '0' && code <= '9' ? END : stateBehindEnd(code);
                case ZERO_OR_END:
                    return code == '0' ? END : stateBehindEnd(code);
                case END:
                    return stateBehindEnd(code);
                default:
                    return WRONG;
            }
        }

        private static int stateBehindLetter(int code) {
            switch (code) {
                case 'l':
                    return LAUNCH_COLUMN;
                case 'b':
                    return BEND_ROW;
                case '$':
                    return BUY_NUMBER;
                default:
                    return WRONG;
            }
        }

        // A number of launches is at most 30.
        private static int stateBehindLaunchDigit(int code) {
            if (code == '1' || code == '2') {
                return DIGIT_OR_END;
            }
            if (code == '3') {
                return ZERO_OR_END;
            }
            return code >= '4' && code <= '9' ? END : WRONG;
        }

        private static int stateBehindEnd(int code) {
            return code == ';' ? PART : WRONG;
        }

        int codeAt(int place) {
            return place >= 0 && place < length ? codes[place] : NONE;
        }

        boolean endsPart(int place) {
            return place == length || codeAt(place) == ';';
        }

        int digitBelow(int limit, int place) {
            int digit = codeAt(place) - '0';
            return digit >= 0 && digit < limit ? digit : 0;
        }

        int numberIn(int from, int end) {
            int number = 0;
            for (int place = from; place < end; place++) {
                number = 10 * number + digitBelow(10, place);
            }
            return number;
        }

        int bendAt(int place) {
            switch (codeAt(place)) {
                case '<':
                    return -1;
                case '>':
                    return 1;
                default:
                    return 0;
            }
        }
    }
}
