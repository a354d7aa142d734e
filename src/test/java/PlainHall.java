import java.util.ArrayList;
import java.util.List;
import java.util.TreeSet;

/**
 * The document once more, in rows and columns and without any cleverness: what the program is compared with.
 * It shares no code and no way of holding a board with the program.
 */
final class PlainHall {

    private static final int[][] WAYS = {{-1, 0}, {0, -1}, {0, 1}, {1, 0}};

    /** A board with its side to move. */
    private static final class Position {
        final int[] pieces = new int[49];
        int side;

        Position copy() {
            Position copy = new Position();
            System.arraycopy(pieces, 0, copy.pieces, 0, 49);
            copy.side = side;
            return copy;
        }

        int count(int piece) {
            int count = 0;
            for (int one : pieces) {
                count += one == piece ? 1 : 0;
            }
            return count;
        }

        int king() {
            for (int square = 0; square < 49; square++) {
                if (pieces[square] == 3) {
                    return square;
                }
            }
            return -1;
        }

        String text() {
            return java.util.Arrays.toString(pieces) + side;
        }
    }

    /** All that taking back and doing again brings back. */
    private static final class State {
        Position position;
        double[] times = {600.0, 600.0};
        int end;
        int winner = -1;
        String move = "";
        int number = -1;
        int captured;
    }

    private int rules;
    private int knocks;
    private boolean gaveUp;
    private List<State> line = new ArrayList<>();
    private int now;

    PlainHall() {
        begin(0);
    }

    private State state() {
        return line.get(now);
    }

    private Position position() {
        return state().position;
    }

    int begin(int set) {
        if (set < 0 || set > 15) {
            throw new IllegalArgumentException();
        }
        int before = rules;
        rules = set;
        State first = new State();
        first.position = new Position();
        String[] rows = {"...a...", "...a...", "...d...", "aadKdaa", "...d...", "...a...", "...a..."};
        for (int square = 0; square < 49; square++) {
            first.position.pieces[square] = Math.max(0, " adK".indexOf(rows[square / 7].charAt(square % 7)));
        }
        line = new ArrayList<>(List.of(first));
        now = 0;
        gaveUp = false;
        return before;
    }

    private Position byHand() {
        State fresh = new State();
        fresh.position = position().copy();
        fresh.times = state().times.clone();
        line = new ArrayList<>(List.of(fresh));
        now = 0;
        gaveUp = false;
        return fresh.position;
    }

    int clear() {
        int count = 49 - position().count(0);
        Position position = byHand();
        java.util.Arrays.fill(position.pieces, 0);
        position.side = 0;
        return count;
    }

    private static void square(int square) {
        if (square < 0 || square > 48) {
            throw new IndexOutOfBoundsException();
        }
    }

    private static boolean special(int square) {
        return square == 24 || corner(square);
    }

    private static boolean corner(int square) {
        return square == 0 || square == 6 || square == 42 || square == 48;
    }

    int put(int square, int piece) {
        square(square);
        if (piece < 0 || piece > 3 || ((piece == 1 || piece == 2) && special(square))) {
            throw new IllegalArgumentException();
        }
        int king = position().king();
        if (piece == 3 && king != -1 && king != square) {
            throw new IllegalStateException();
        }
        int before = position().pieces[square];
        byHand().pieces[square] = piece;
        return before;
    }

    int side(int side) {
        if (side != 0 && side != 1) {
            throw new IllegalArgumentException();
        }
        int before = position().side;
        byHand().side = side;
        return before;
    }

    private static int sideOf(int piece) {
        return piece == 1 ? 0 : 1;
    }

    private boolean safe(int square) {
        int row = square / 7;
        int column = square % 7;
        return corner(square) || ((rules & 8) != 0 && (row == 0 || row == 6 || column == 0 || column == 6));
    }

    private static int step(int square, int[] way) {
        int row = square / 7 + way[0];
        int column = square % 7 + way[1];
        return row < 0 || row > 6 || column < 0 || column > 6 ? -1 : row * 7 + column;
    }

    private static TreeSet<Integer> goals(Position position, int square) {
        TreeSet<Integer> goals = new TreeSet<>();
        int piece = position.pieces[square];
        if (piece == 0) {
            return goals;
        }
        for (int[] way : WAYS) {
            int next = step(square, way);
            while (next != -1 && position.pieces[next] == 0) {
                if (piece == 3 || !special(next)) {
                    goals.add(next);
                }
                next = step(next, way);
            }
        }
        return goals;
    }

    private static List<int[]> moves(Position position) {
        List<int[]> moves = new ArrayList<>();
        for (int square = 0; square < 49; square++) {
            if (position.pieces[square] != 0 && sideOf(position.pieces[square]) == position.side) {
                for (int goal : goals(position, square)) {
                    moves.add(new int[] {square, goal});
                }
            }
        }
        return moves;
    }

    private boolean helps(Position position, int square, int side) {
        int piece = position.pieces[square];
        if (piece == 0) {
            return corner(square) || (square == 24 && (rules & 4) != 0);
        }
        return sideOf(piece) == side && (piece != 3 || (rules & 2) != 0);
    }

    private boolean surrounded(Position position, int king) {
        for (int[] way : WAYS) {
            int next = step(king, way);
            if (next == -1 || (position.pieces[next] != 1 && next != 24)) {
                return false;
            }
        }
        return true;
    }

    /** Moves on the position given and returns the squares on which it captured. */
    private TreeSet<Integer> play(Position position, int from, int to) {
        int piece = position.pieces[from];
        int side = sideOf(piece);
        position.pieces[to] = piece;
        position.pieces[from] = 0;
        position.side = 1 - position.side;
        TreeSet<Integer> captured = new TreeSet<>();
        for (int[] way : WAYS) {
            int next = step(to, way);
            if (next == -1 || position.pieces[next] == 0 || sideOf(position.pieces[next]) == side) {
                continue;
            }
            int behind = step(next, way);
            boolean helped = behind != -1 && helps(position, behind, side);
            if (piece == 3 && (rules & 2) == 0) {
                helped = false;
            }
            if (position.pieces[next] == 3 && (rules & 1) != 0) {
                helped = surrounded(position, next);
            }
            if (helped) {
                captured.add(next);
            }
        }
        for (int square : captured) {
            position.pieces[square] = 0;
        }
        return captured;
    }

    private int endNow() {
        return gaveUp ? 5 : state().end;
    }

    int move(int from, int to, int quarters) {
        square(from);
        square(to);
        Position before = position();
        if (quarters < 0 || quarters > 4000 || before.pieces[from] == 0
                || sideOf(before.pieces[from]) != before.side || !goals(before, from).contains(to)) {
            throw new IllegalArgumentException();
        }
        if (endNow() != 0) {
            throw new IllegalStateException();
        }
        State fresh = new State();
        fresh.position = before.copy();
        fresh.times = state().times.clone();
        int mover = before.side;
        TreeSet<Integer> captured = play(fresh.position, from, to);
        fresh.captured = captured.size();
        fresh.number = 100 * from + to;
        fresh.move = from + "-" + to + (captured.isEmpty() ? "" : "x" + captured.size());
        while (line.size() > now + 1) {
            line.remove(line.size() - 1);
        }
        line.add(fresh);
        now++;
        fresh.times[mover] = fresh.times[mover] - quarters * 0.25;
        if (fresh.times[mover] < 0.0) {
            fresh.end = 5;
            fresh.winner = 1 - mover;
            return fresh.captured;
        }
        fresh.times[mover] = fresh.times[mover] + 2.5;
        if (fresh.position.pieces[to] == 3 && safe(to)) {
            fresh.end = 1;
            fresh.winner = 1;
        } else if (before.king() != -1 && fresh.position.king() == -1) {
            fresh.end = 2;
            fresh.winner = 0;
        } else if (times() >= 3) {
            fresh.end = 4;
        } else if (moves(fresh.position).isEmpty()) {
            fresh.end = 3;
            fresh.winner = mover;
        }
        return fresh.captured;
    }

    private int times() {
        int times = 0;
        for (int i = 0; i <= now; i++) {
            times += line.get(i).position.text().equals(position().text()) ? 1 : 0;
        }
        return times;
    }

    int back() {
        if (now == 0 || gaveUp) {
            throw new IllegalStateException();
        }
        now--;
        return now;
    }

    int again() {
        if (now == line.size() - 1 || gaveUp) {
            throw new IllegalStateException();
        }
        now++;
        return line.size() - 1 - now;
    }

    int resign() {
        if (endNow() != 0) {
            knocks++;
        } else {
            gaveUp = true;
        }
        return endNow();
    }

    int at(int square) {
        square(square);
        return position().pieces[square];
    }

    String row(int row) {
        if (row < 0 || row > 6) {
            throw new IndexOutOfBoundsException();
        }
        String text = "";
        for (int square = row * 7; square < row * 7 + 7; square++) {
            int piece = position().pieces[square];
            text += piece == 0 && special(square) ? "x" : String.valueOf(".adK".charAt(piece));
        }
        return text;
    }

    private static long set(Iterable<Integer> squares) {
        long set = 0;
        for (int square : squares) {
            set += 1L << square;
        }
        return set;
    }

    long reach(int square) {
        square(square);
        return set(goals(position(), square));
    }

    long takes(int from, int to) {
        square(from);
        square(to);
        if (!goals(position(), from).contains(to)) {
            throw new IllegalArgumentException();
        }
        return set(play(position().copy(), from, to));
    }

    private int steps(Position position) {
        int king = position.king();
        if (king == -1) {
            return -1;
        }
        int[] far = new int[49];
        java.util.Arrays.fill(far, -1);
        far[king] = 0;
        List<Integer> queue = new ArrayList<>(List.of(king));
        for (int i = 0; i < queue.size(); i++) {
            int square = queue.get(i);
            if (safe(square)) {
                return far[square];
            }
            Position there = position.copy();
            there.pieces[king] = 0;
            there.pieces[square] = 3;
            for (int goal : goals(there, square)) {
                if (far[goal] == -1) {
                    far[goal] = far[square] + 1;
                    queue.add(goal);
                }
            }
        }
        return -1;
    }

    int of(int what) {
        int captured = 0;
        for (int i = 1; i <= now; i++) {
            captured += line.get(i).captured;
        }
        int winner = gaveUp ? 1 - position().side : state().winner;
        if (what < 0 || what > 14) {
            throw new IllegalArgumentException();
        }
        int[] all = {rules, position().side, endNow(), winner, now, line.size() - 1 - now, position().count(1),
            position().count(2), position().king(), times(), steps(position()), moves(position()).size(), captured,
            state().number, knocks};
        return all[what];
    }

    long key() {
        long key = 1;
        for (int piece : position().pieces) {
            key = key * 5 + piece;
        }
        return key * 5 + position().side;
    }

    double time(int side) {
        if (side != 0 && side != 1) {
            throw new IllegalArgumentException();
        }
        return state().times[side];
    }

    double lead() {
        double lead = Math.rint(Math.max(-60.0, Math.min(60.0, state().times[1] - state().times[0])));
        return lead == 0.0 ? 0.0 : lead;
    }

    String last() {
        return state().move;
    }

    private double light(Position position) {
        int king = position.king();
        if (king == -1) {
            return -32;
        }
        if (safe(king)) {
            return 32;
        }
        return 0.5 * position.count(2) - 0.25 * position.count(1) + goals(position, king).size() / 8.0;
    }

    private double value(Position position) {
        double light = light(position);
        if (light == 32 || light == -32) {
            return light;
        }
        int steps = steps(position);
        return light - 0.125 * (steps == -1 ? 8 : steps);
    }

    double worth() {
        return value(position());
    }

    private static void depth(int depth) {
        if (depth != 1 && depth != 2) {
            throw new IllegalArgumentException();
        }
    }

    private boolean kingCame(Position before, int[] move) {
        return before.pieces[move[0]] == 3 && safe(move[1]);
    }

    int ways(int depth) {
        depth(depth);
        List<int[]> firsts = moves(position());
        if (depth == 1) {
            return firsts.size();
        }
        int count = 0;
        for (int[] move : firsts) {
            Position behind = position().copy();
            TreeSet<Integer> captured = play(behind, move[0], move[1]);
            if (!captured.contains(position().king()) && !kingCame(position(), move)) {
                count += moves(behind).size();
            }
        }
        return count;
    }

    private double search(int[] move, int depth) {
        Position first = position().copy();
        play(first, move[0], move[1]);
        if (depth == 1) {
            return value(first);
        }
        List<int[]> replies = moves(first);
        if (first.king() == -1 || kingCame(position(), move) || replies.isEmpty()) {
            return light(first);
        }
        List<Double> lights = new ArrayList<>();
        for (int[] reply : replies) {
            Position second = first.copy();
            play(second, reply[0], reply[1]);
            lights.add(light(second));
        }
        return position().side == 1 ? java.util.Collections.min(lights) : java.util.Collections.max(lights);
    }

    int best(int depth) {
        depth(depth);
        int best = -1;
        double bestValue = 0;
        for (int[] move : moves(position())) {
            double value = search(move, depth) * (position().side == 1 ? 1 : -1);
            int number = 100 * move[0] + move[1];
            if (best == -1 || value > bestValue || (value == bestValue && number < best)) {
                best = number;
                bestValue = value;
            }
        }
        return best;
    }

    long threatened() {
        TreeSet<Integer> squares = new TreeSet<>();
        for (int[] move : moves(position())) {
            squares.addAll(play(position().copy(), move[0], move[1]));
        }
        squares.remove(position().king());
        return set(squares);
    }

    long digest() {
        long d = 58300;
        for (int what = 0; what < 15; what++) {
            d = d * 31 + of(what);
        }
        d = d * 31 + key();
        for (int square = 0; square < 49; square++) {
            d = d * 31 + reach(square);
        }
        d = d * 31 + threatened();
        d = d * 31 + ways(1);
        d = d * 31 + best(1);
        d = d * 31 + (long) (time(0) * 4.0);
        d = d * 31 + (long) (time(1) * 4.0);
        return d * 31 + (long) (worth() * 64.0);
    }
}
