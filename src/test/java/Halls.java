/** Halls that several tests begin with. */
final class Halls {

    static final String NONE = ".......";

    /** By each END a hall; behind the ENDS that moves make comes that of a side that gave up. */
    static final Checks.Maker[] BY_END = {
        Halls::goingOn, Halls::kingSafe, Halls::kingCaptured, Halls::noMove, Halls::even, Halls::lostByClock,
        Halls::givenUp,
    };
    static final int[] ENDS = {0, 1, 2, 3, 4, 5, 5};
    static final int[] WINNERS = {-1, 1, 0, 0, -1, 1, 0};

    private Halls() {
    }

    /** A hall of which nothing but its constructor was called. */
    static TaflHall fresh() {
        return new TaflHall();
    }

    /** Two moves that can be taken back, and one that can be done again. */
    static TaflHall goingOn() {
        TaflHall hall = new TaflHall();
        hall.begin(9);
        hall.move(3, 4, 7);
        hall.move(17, 18, 30);
        hall.move(4, 5, 3);
        hall.back();
        return hall;
    }

    static TaflHall kingSafe() {
        TaflHall hall = Checks.hall(0, 1, "...K...", NONE, NONE, NONE, ".a.....", NONE, NONE);
        hall.move(3, 0, 0);
        return hall;
    }

    static TaflHall kingCaptured() {
        TaflHall hall = Checks.hall(0, 0, "..a....", NONE, "...Ka..", NONE, NONE, ".d.....", NONE);
        hall.move(2, 16, 0);
        return hall;
    }

    static TaflHall noMove() {
        TaflHall hall = Checks.hall(0, 0, NONE, NONE, ".a.....", NONE, NONE, NONE, NONE);
        hall.move(15, 16, 0);
        return hall;
    }

    static TaflHall even() {
        TaflHall hall = shuttle();
        round(hall);
        round(hall);
        return hall;
    }

    static TaflHall lostByClock() {
        TaflHall hall = new TaflHall();
        hall.move(3, 4, 4000);
        return hall;
    }

    /** Like the one that goes on, but that the side 0 gives up. */
    static TaflHall givenUp() {
        TaflHall hall = goingOn();
        hall.back();
        hall.resign();
        return hall;
    }

    /** One piece of each side, far apart. */
    static TaflHall shuttle() {
        return Checks.hall(0, 0, NONE, ".a.....", NONE, NONE, NONE, "....d..", NONE);
    }

    /** Both pieces of the shuttle go there and back: the same board is there once more. */
    static void round(TaflHall hall) {
        hall.move(8, 9, 0);
        hall.move(39, 40, 0);
        hall.move(9, 8, 0);
        hall.move(40, 39, 0);
    }

    static TaflHall empty() {
        TaflHall hall = new TaflHall();
        hall.clear();
        return hall;
    }

    /** A piece on each square where one may be: the king on the throne, the others in turn. */
    static TaflHall full() {
        TaflHall hall = empty();
        for (int square = 0; square < 49; square++) {
            if (square == 24) {
                hall.put(square, 3);
            } else if (!isCorner(square)) {
                hall.put(square, 1 + square % 2);
            }
        }
        return hall;
    }

    /** Eleven attackers that stand in each other's way so little that they have 98 moves. */
    static TaflHall many() {
        TaflHall hall = empty();
        for (int square : new int[] {1, 5, 7, 13, 18, 23, 31, 35, 41, 43, 47}) {
            hall.put(square, 1);
        }
        return hall;
    }

    /** As many attackers, and beside them a piece that none but the last two of them can capture. */
    static TaflHall manyAndOne(int piece) {
        TaflHall hall = many();
        hall.put(38, piece);
        return hall;
    }

    /** A board with nothing but one piece on it, and its side to move. */
    static TaflHall alone(int rules, int square, int piece) {
        TaflHall hall = new TaflHall();
        hall.begin(rules);
        hall.clear();
        hall.put(square, piece);
        hall.side(piece == 1 ? 0 : 1);
        return hall;
    }

    static boolean isCorner(int square) {
        return square == 0 || square == 6 || square == 42 || square == 48;
    }

    static boolean isEdge(int square) {
        return square / 7 == 0 || square / 7 == 6 || square % 7 == 0 || square % 7 == 6;
    }
}
