import java.math.BigInteger;
import java.util.ArrayDeque;
import java.util.ArrayList;
import java.util.Deque;
import java.util.List;
import java.util.regex.Matcher;
import java.util.regex.Pattern;

/** The document once more, written another way and without a thought of speed. */
final class Model {
    private static final Pattern PART = Pattern.compile(
            "l([0-6])x([1-9]|[12][0-9]|30)|b([0-7])([0-6])([<|>])|\\$([1-9][0-9]?)");

    private static final class Pocket {
        int kind;
        int pay;
        boolean tulipOpen;
        int came;
        int paid;

        Pocket copy() {
            Pocket copy = new Pocket();
            copy.kind = kind;
            copy.pay = pay;
            copy.tulipOpen = tulipOpen;
            copy.came = came;
            copy.paid = paid;
            return copy;
        }
    }

    private static final class State {
        int[][] pins = new int[8][7];
        List<Integer> bent = new ArrayList<>();
        List<Integer> touched = new ArrayList<>();
        List<Pocket> pockets = new ArrayList<>();
        List<Integer> signs = List.of(0, 1, 2);
        int hand, bought, launches, paid, shut, zero, waiting, spins, jackpots, held, streak;
        int latest = -1;
        int start = 3;
        long x = 1;
        int balls = 6;
        int streakSpins = 8;

        State copy() {
            State copy = new State();
            for (int row = 0; row < 8; row++) {
                copy.pins[row] = pins[row].clone();
            }
            copy.bent = new ArrayList<>(bent);
            copy.touched = new ArrayList<>(touched);
            for (Pocket pocket : pockets) {
                copy.pockets.add(pocket.copy());
            }
            copy.signs = signs;
            copy.hand = hand;
            copy.bought = bought;
            copy.launches = launches;
            copy.paid = paid;
            copy.shut = shut;
            copy.zero = zero;
            copy.waiting = waiting;
            copy.spins = spins;
            copy.jackpots = jackpots;
            copy.held = held;
            copy.streak = streak;
            copy.latest = latest;
            copy.start = start;
            copy.x = x;
            copy.balls = balls;
            copy.streakSpins = streakSpins;
            return copy;
        }

        int draw(int below) {
            x = BigInteger.valueOf(x).multiply(BigInteger.valueOf(1103515245)).add(BigInteger.valueOf(12345))
                    .mod(BigInteger.ONE.shiftLeft(31)).longValueExact();
            return (int) ((x >> 16) % below);
        }

        boolean open(int pocket) {
            Pocket p = pockets.get(pocket);
            return p.kind == 0 || p.kind == 1 && held > 0 || p.kind == 2 && p.tulipOpen;
        }

        void spin() {
            boolean inStreak = streak > 0;
            streak = Math.max(0, streak - 1);
            int below = inStreak ? 4 : 8;
            signs = List.of(draw(below), draw(below), draw(below));
            spins++;
            boolean agree = signs.stream().distinct().count() == 1;
            held = agree ? balls : 0;
            if (agree) {
                jackpots++;
                streak = streakSpins;
            }
        }

        int launch(int column) {
            hand--;
            launches++;
            if (waiting > 0 && held == 0) {
                waiting--;
                spin();
            }
            touched.clear();
            int at = column;
            for (int row = 0; row < 8; row++) {
                touched.add(7 * row + at);
                int side = pins[row][at] != 0 ? pins[row][at] : 2 * draw(2) - 1;
                at = Math.min(6, Math.max(0, at + side));
            }
            latest = at;
            int pays = land(at);
            if (at == start) {
                waiting = Math.min(4, waiting + 1);
            }
            return pays;
        }

        private int land(int at) {
            Pocket p = pockets.get(at);
            boolean wasOpen = open(at);
            p.came++;
            int pays = wasOpen ? p.pay : 0;
            shut += wasOpen ? 0 : 1;
            zero += wasOpen && p.pay == 0 ? 1 : 0;
            p.paid += pays;
            paid += pays;
            hand += pays;
            if (p.kind == 2) {
                p.tulipOpen = !p.tulipOpen;
            }
            if (p.kind == 1 && wasOpen) {
                held--;
            }
            return pays;
        }

        int bend(int row, int column, int to) {
            int before = pins[row][column];
            pins[row][column] = to;
            Integer pin = 7 * row + column;
            if (to == 0) {
                bent.remove(pin);
            } else if (!bent.contains(pin)) {
                bent.add(pin);
            }
            return before + 1;
        }
    }

    private State state = new State();
    private State snapshot = null;
    private final Deque<State> saved = new ArrayDeque<>();
    private String buffer = "";

    Model() {
        int[] kinds = {0, 2, 1, 0, 1, 2, 0};
        int[] pays = {0, 3, 10, 2, 10, 3, 0};
        for (int i = 0; i < 7; i++) {
            Pocket pocket = new Pocket();
            pocket.kind = kinds[i];
            pocket.pay = pays[i];
            state.pockets.add(pocket);
        }
    }

    private static void index(boolean fits) {
        if (!fits) {
            throw new IndexOutOfBoundsException();
        }
    }

    private static void argument(boolean fits) {
        if (!fits) {
            throw new IllegalArgumentException();
        }
    }

    private static void state(boolean fits) {
        if (!fits) {
            throw new IllegalStateException();
        }
    }

    private static boolean in(int value, int least, int most) {
        return least <= value && value <= most;
    }

    private void save() {
        saved.addLast(state.copy());
        if (saved.size() > 6) {
            saved.removeFirst();
        }
    }

    long answer(String call, int a, int b, int c) {
        switch (call) {
            case "bend":
                index(in(a, 0, 7) && in(b, 0, 6));
                argument(in(c, -1, 1));
                save();
                return state.bend(a, b, c);
            case "pocket":
                return pocket(a, b, c);
            case "start":
                index(in(a, 0, 6));
                save();
                int start = state.start;
                state.start = a;
                return start;
            case "set":
                return set(a, b);
            case "shuffle":
                argument(a >= 0);
                save();
                long x = state.x;
                state.x = a;
                return x;
            case "buy":
                argument(in(a, 1, 99));
                save();
                state.hand += a;
                state.bought += a;
                return state.hand;
            case "launch":
                index(in(a, 0, 6));
                state(state.hand > 0);
                save();
                state.launch(a);
                return state.latest;
            case "play":
                index(in(a, 0, 6));
                argument(in(b, 1, 30));
                save();
                return play(a, b);
            case "append":
                argument(in(a, 33, 126));
                state(buffer.length() < 60);
                buffer += (char) a;
                return buffer.length();
            case "clearBuffer":
                int length = buffer.length();
                buffer = "";
                return length;
            case "firstError":
                return firstError();
            case "work":
                return work();
            case "undo":
                state(!saved.isEmpty());
                state = saved.removeLast();
                return saved.size();
            case "keep":
                snapshot = state.copy();
                return state.hand;
            case "restore":
                state(snapshot != null);
                save();
                state = snapshot.copy();
                return state.hand;
            default:
                return look(call, a, b);
        }
    }

    private long look(String call, int a, int b) {
        switch (call) {
            case "pin":
                index(in(a, 0, 7) && in(b, 0, 6));
                return state.pins[a][b] + 1;
            case "bent":
                argument(a >= 0);
                return a < state.bent.size() ? state.bent.get(a) : -1;
            case "touched":
                argument(in(a, 0, 7));
                return state.touched.isEmpty() ? -1 : state.touched.get(a);
            case "pocketOf":
                index(in(a, 0, 6));
                argument(in(b, 0, 4));
                return pocketOf(a, b);
            case "reel":
                index(in(a, 0, 2));
                return state.signs.get(a);
            case "count":
                argument(in(a, 0, 17));
                return counts()[a];
            case "ways":
            case "walked":
                index(in(a, 0, 6) && in(b, 0, 6));
                return ways(0, a, b);
            case "ifLaunched":
                index(in(a, 0, 6));
                argument(in(b, 0, 3));
                return ifLaunched(a, b);
            case "bestColumn":
                return bestColumn();
            case "untilOpen":
                index(in(a, 0, 6));
                return untilOpen(a);
            case "payback":
                return Double.doubleToLongBits(payback());
            case "digest":
                return digest();
            default:
                throw new UnsupportedOperationException(call);
        }
    }

    private long pocket(int pocket, int kind, int pay) {
        index(in(pocket, 0, 6));
        argument(in(kind, 0, 2) && in(pay, 0, 15));
        save();
        Pocket p = state.pockets.get(pocket);
        int before = p.pay;
        p.tulipOpen = p.tulipOpen && p.kind == 2 && kind == 2;
        p.kind = kind;
        p.pay = pay;
        return before;
    }

    private long set(int setting, int value) {
        index(in(setting, 0, 1));
        argument(setting == 0 ? in(value, 1, 10) : in(value, 0, 20));
        save();
        int before = setting == 0 ? state.balls : state.streakSpins;
        if (setting == 0) {
            state.balls = value;
        } else {
            state.streakSpins = value;
        }
        return before;
    }

    private int play(int column, int balls) {
        int paid = 0;
        for (int i = 0; i < balls; i++) {
            if (state.hand > 0) {
                paid += state.launch(column);
            }
        }
        return paid;
    }

    /** Some text goes on from here, if one of these endings makes works of it. */
    private static boolean goesOn(String text) {
        for (String ending : new String[] {"", "$1", "1", "x1", "0x1", "00<", "0<", "<", "0"}) {
            if (isWorks(text + ending)) {
                return true;
            }
        }
        return false;
    }

    private static boolean isWorks(String text) {
        for (String part : text.split(";", -1)) {
            if (!PART.matcher(part).matches()) {
                return false;
            }
        }
        return true;
    }

    private int firstError() {
        int good = 0;
        while (good < buffer.length() && goesOn(buffer.substring(0, good + 1))) {
            good++;
        }
        return good;
    }

    private long work() {
        argument(isWorks(buffer));
        save();
        int paid = 0;
        for (String part : buffer.split(";")) {
            Matcher matcher = PART.matcher(part);
            argument(matcher.matches());
            if (matcher.group(1) != null) {
                paid += play(Integer.parseInt(matcher.group(1)), Integer.parseInt(matcher.group(2)));
            } else if (matcher.group(3) != null) {
                state.bend(Integer.parseInt(matcher.group(3)), Integer.parseInt(matcher.group(4)),
                        "<|>".indexOf(matcher.group(5)) - 1);
            } else {
                state.hand += Integer.parseInt(matcher.group(6));
                state.bought += Integer.parseInt(matcher.group(6));
            }
        }
        buffer = "";
        return paid;
    }

    private int pocketOf(int pocket, int what) {
        Pocket p = state.pockets.get(pocket);
        return new int[] {p.kind, p.pay, state.open(pocket) ? 1 : 0, p.came, p.paid}[what];
    }

    private long[] counts() {
        State s = state;
        return new long[] {s.hand, s.bought, s.launches, s.paid, s.shut, s.zero, s.waiting, s.spins, s.jackpots,
            s.held, s.streak, s.latest, s.start, s.x, s.balls, s.streakSpins, s.bent.size(), saved.size()};
    }

    private int ways(int row, int column, int pocket) {
        if (row == 8) {
            return column == pocket ? 1 : 0;
        }
        int left = ways(row, column, pocket, -1);
        int right = ways(row, column, pocket, 1);
        return state.pins[row][column] < 0 ? left : state.pins[row][column] > 0 ? right : left + right;
    }

    private int ways(int row, int column, int pocket, int side) {
        return ways(row + 1, Math.min(6, Math.max(0, column + side)), pocket);
    }

    private int ifLaunched(int column, int what) {
        State then = state.copy();
        int pays = then.launch(column);
        return new int[] {then.latest, pays, then.waiting, then.held}[what];
    }

    private int bestColumn() {
        int best = 0;
        long[] measures = new long[7];
        for (int column = 0; column < 7; column++) {
            long sum = 0;
            long all = 0;
            for (int pocket = 0; pocket < 7; pocket++) {
                all += ways(0, column, pocket);
                sum += state.open(pocket) ? (long) ways(0, column, pocket) * state.pockets.get(pocket).pay : 0;
            }
            measures[column] = sum * 1000 / all;
            best = measures[column] > measures[best] ? column : best;
        }
        return best;
    }

    private int untilOpen(int column) {
        State then = state.copy();
        int launches = 0;
        while (then.held == 0 && launches <= 200) {
            then.launch(column);
            launches++;
        }
        return launches <= 200 ? launches : -1;
    }

    double payback() {
        return state.launches == 0 ? 0.0 : (double) state.paid / (double) state.launches;
    }

    long digest() {
        List<Long> values = new ArrayList<>();
        for (long count : counts()) {
            values.add(count);
        }
        for (int[] row : state.pins) {
            for (int pin : row) {
                values.add(pin + 1L);
            }
        }
        state.bent.forEach(pin -> values.add((long) pin));
        for (int place = 0; place < 8; place++) {
            values.add(look("touched", place, 0));
        }
        for (int pocket = 0; pocket < 7; pocket++) {
            for (int what = 0; what < 5; what++) {
                values.add((long) pocketOf(pocket, what));
            }
        }
        state.signs.forEach(sign -> values.add((long) sign));
        for (int column = 0; column < 7; column++) {
            for (int pocket = 0; pocket < 7; pocket++) {
                values.add((long) ways(0, column, pocket));
                values.add((long) ways(0, column, pocket));
            }
            for (int what = 0; what < 4; what++) {
                values.add((long) ifLaunched(column, what));
            }
            values.add((long) untilOpen(column));
        }
        values.add((long) bestColumn());
        values.add(Double.doubleToLongBits(payback()));
        values.add((long) buffer.length());
        buffer.chars().forEach(code -> values.add((long) code));
        long hash = 3677;
        for (long value : values) {
            hash = 31 * hash + value;
        }
        return hash;
    }
}
