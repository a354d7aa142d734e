/** Long runs of calls, chosen by a fixed row of numbers, on the program and on PlainHall side by side. */
public final class PlainHallTest {

    private static final int RUNS = 300;
    private static final int CALLS = 490;

    private long seed;
    private TaflHall hall;
    private PlainHall plain;
    private StringBuilder story;
    private final int[] lastMoves = {-1, -1};

    private PlainHallTest(long seed) {
        this.seed = seed;
    }

    /** A call that answers something. */
    private interface Asking {
        Object ask();
    }

    public static void main(String[] args) {
        for (int run = 0; run < RUNS; run++) {
            new PlainHallTest(run * 7919L + 1).run();
        }
        Checks.finish();
    }

    private int any(int bound) {
        seed = seed * 6364136223846793005L + 1442695040888963407L;
        return (int) Math.floorMod(seed >>> 33, (long) bound);
    }

    private void run() {
        hall = new TaflHall();
        plain = new PlainHall();
        story = new StringBuilder();
        int kind = any(4);
        for (int call = 0; call < CALLS; call++) {
            switch (kind) {
                case 0: playOn(); break;
                case 1: shuttle(); break;
                case 2: setAndPlay(call); break;
                default: anything(); break;
            }
        }
    }

    private void both(String call, Asking ofHall, Asking ofPlain) {
        story.append(call).append("; ");
        Object got = answer(ofHall);
        Object due = answer(ofPlain);
        Checks.same("behind " + (got.equals(due) ? "" : story.toString()) + call, got, due);
    }

    private static Object answer(Asking asking) {
        try {
            return asking.ask();
        } catch (IndexOutOfBoundsException | IllegalArgumentException | IllegalStateException e) {
            return e.getClass().getName();
        }
    }

    /** Mostly moves that are allowed. */
    private void playOn() {
        int choice = any(20);
        if (choice < 13) {
            moveSomething(any(40));
        } else if (choice < 19) {
            ask();
        } else {
            change();
        }
    }

    /** Short ways there and back, so that boards come again. */
    private void shuttle() {
        int choice = any(30);
        if (choice < 20) {
            moveThereOrBack();
        } else if (choice < 22) {
            turn();
        } else if (choice < 29) {
            ask();
        } else {
            change();
        }
    }

    /** Boards set by hand, a few moves, and questions. */
    private void setAndPlay(int call) {
        if (call % 64 == 0) {
            int rules = any(16);
            both("begin(" + rules + ")", () -> hall.begin(rules), () -> plain.begin(rules));
            both("clear()", hall::clear, plain::clear);
            set(any(49), 3);
        } else if (call % 64 < 18) {
            set(any(3) == 0 ? besideTheKing() : any(49), 1 + any(4) / 3);
        } else if (any(3) == 0) {
            moveSomething(any(9) == 0 ? any(4010) - 5 : any(60));
        } else if (any(30) == 0) {
            turn();
        } else {
            ask();
        }
    }

    private int besideTheKing() {
        int[] steps = {-7, -1, 1, 7};
        return plain.of(8) + steps[any(4)];
    }

    private void anything() {
        int choice = any(4);
        if (choice == 0) {
            change();
        } else if (choice == 1) {
            turn();
        } else if (choice == 2) {
            ask();
        } else {
            moveSomething(any(4010));
        }
    }

    /** A move of the side to move, if there is one; sometimes the one that captures. */
    private void moveSomething(int quarters) {
        if (plain.of(2) != 0 && any(5) != 0) {
            goOnBehindAnEnd();
            return;
        }
        int wanted = any(9) == 0 ? plain.best(1) : any(3) == 0 ? capturing() : -1;
        if (wanted < 0) {
            wanted = someMove();
        }
        move(wanted, quarters);
    }

    private void goOnBehindAnEnd() {
        if (any(3) == 0) {
            int side = any(2);
            both("side(" + side + ")", () -> hall.side(side), () -> plain.side(side));
        } else if (any(3) == 0) {
            int rules = any(16);
            both("begin(" + rules + ")", () -> hall.begin(rules), () -> plain.begin(rules));
        } else {
            both("back()", hall::back, plain::back);
        }
    }

    /** The way back of the last move of this side, or one that comes back. */
    private void moveThereOrBack() {
        int side = plain.of(1);
        int wayBack = lastMoves[side] % 100 * 100 + lastMoves[side] / 100;
        boolean there = lastMoves[side] < 0 || plain.at(wayBack / 100) == 0 || any(12) == 0
                || (plain.reach(wayBack / 100) >> wayBack % 100 & 1) == 0
                || (plain.at(wayBack / 100) == 1 ? 0 : 1) != side;
        if (there || plain.of(2) != 0) {
            moveSomething(0);
        } else {
            move(wayBack, 0);
        }
    }

    private void move(int wanted, int quarters) {
        lastMoves[plain.of(1)] = wanted % 100 < 49 ? wanted : -1;
        int from = wanted / 100;
        int to = wanted % 100;
        both("move(" + from + ", " + to + ", " + quarters + ")",
                () -> hall.move(from, to, quarters), () -> plain.move(from, to, quarters));
    }

    private int someMove() {
        int skip = any(49);
        for (int i = 0; i < 49; i++) {
            int from = (i + skip) % 49;
            long goals = plain.reach(from);
            if (goals != 0 && (plain.at(from) == 1 ? 0 : 1) == plain.of(1)) {
                int to = any(49);
                while ((goals >> to & 1) == 0) {
                    to = (to + 1) % 49;
                }
                return from * 100 + to;
            }
        }
        return any(4849);
    }

    private int capturing() {
        int skip = any(49);
        for (int i = 0; i < 49; i++) {
            int from = (i + skip) % 49;
            long goals = plain.reach(from);
            for (int to = 0; to < 49; to++) {
                if ((goals >> to & 1) != 0 && (plain.at(from) == 1 ? 0 : 1) == plain.of(1)
                        && plain.takes(from, to) != 0) {
                    return from * 100 + to;
                }
            }
        }
        return -1;
    }

    private void set(int square, int piece) {
        both("put(" + square + ", " + piece + ")", () -> hall.put(square, piece), () -> plain.put(square, piece));
    }

    private void turn() {
        switch (any(3)) {
            case 0: both("again()", hall::again, plain::again); break;
            default: both("back()", hall::back, plain::back); break;
        }
    }

    private void change() {
        int number = any(18) - 1;
        int side = any(4) - 1;
        switch (any(7)) {
            case 0: both("begin(" + number + ")", () -> hall.begin(number), () -> plain.begin(number)); break;
            case 1: both("resign()", hall::resign, plain::resign); break;
            case 2: both("side(" + side + ")", () -> hall.side(side), () -> plain.side(side)); break;
            case 3: if (any(6) == 0) { both("clear()", hall::clear, plain::clear); } break;
            case 4: turn(); break;
            default: set(any(51) - 1, any(6) - 1); break;
        }
    }

    private void ask() {
        int one = any(51) - 1;
        int other = any(51) - 1;
        int few = any(17) - 1;
        int depth = any(40) == 0 ? any(5) - 1 : 1 + any(2);
        switch (any(16)) {
            case 0: both("at(" + one + ")", () -> hall.at(one), () -> plain.at(one)); break;
            case 1: both("row(" + few % 9 + ")", () -> hall.row(few % 9), () -> plain.row(few % 9)); break;
            case 2: both("reach(" + one + ")", () -> hall.reach(one), () -> plain.reach(one)); break;
            case 3: both("takes(" + one + ", " + other + ")",
                    () -> hall.takes(one, other), () -> plain.takes(one, other)); break;
            case 4: askTakes(); break;
            case 5: both("key()", hall::key, plain::key); break;
            case 6: both("time(" + few % 3 + ")", () -> hall.time(few % 3), () -> plain.time(few % 3)); break;
            case 7: both("lead()", hall::lead, plain::lead); break;
            case 8: both("last()", hall::last, plain::last); break;
            case 9: both("worth()", hall::worth, plain::worth); break;
            case 10: both("ways(" + depth + ")", () -> hall.ways(depth), () -> plain.ways(depth)); break;
            case 11: if (any(4) == 0) {
                both("best(" + depth + ")", () -> hall.best(depth), () -> plain.best(depth));
            } break;
            case 12: both("threatened()", hall::threatened, plain::threatened); break;
            case 13: both("digest()", hall::digest, plain::digest); break;
            default: both("of(" + few + ")", () -> hall.of(few), () -> plain.of(few)); break;
        }
    }

    private void askTakes() {
        int move = any(2) == 0 ? capturing() : someMove();
        if (move >= 0) {
            both("takes(" + move / 100 + ", " + move % 100 + ")",
                    () -> hall.takes(move / 100, move % 100), () -> plain.takes(move / 100, move % 100));
        }
    }
}
