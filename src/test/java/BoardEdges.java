/** The edges that sections 1 and promises 1 to 5 name: the board, and how it is set. */
final class BoardEdges {

    private static final int[] FAR = {Integer.MIN_VALUE, Integer.MAX_VALUE};

    private BoardEdges() {
    }

    static void run() {
        the512thCall();
        noneIsMinusOne();
        setsOfSquares();
        squaresGoFrom0To48();
        neighboursShareASide();
        theThroneAndTheCorners();
        oneKingAtMost();
        theBoardAsItBegins();
        rulesAreASet();
        whereTheKingIsSafe();
        aNewObject();
        beginAnewFromEachEnd();
        beginReturnsThatBefore();
        beginRefuses();
        clearAnyBoard();
        clearCountsPieces();
        clearFromEachEnd();
        putFromEachEnd();
        putReturnsWhatWasThere();
        putRefusesSquares();
        putRefusesPieces();
        putRefusesASecondKing();
        putNamesTheFirstFault();
        sideFromEachEnd();
        sideReturnsThatBefore();
        sideRefuses();
    }

    private static void the512thCall() {
        Document.opening("An object is used for at most 512 calls after it has been made");
        // Two rings of 12 and 11 squares: a board comes again behind 132 rounds only.
        int[] attacker = {7, 8, 9, 10, 11, 12, 19, 18, 17, 16, 15, 14};
        int[] defender = {28, 30, 31, 32, 33, 40, 39, 38, 37, 36, 35};
        TaflHall forth = ringed(attacker, defender, 508);
        Checks.same("508 moves behind 3 calls", forth.of(4), 508);
        TaflHall there = ringed(attacker, defender, 254);
        for (int left = 253; left >= 0; left--) {
            Checks.same("back() of 254 moves", there.back(), left);
        }
        Checks.same("all of them can be done again", there.of(5), 254);
    }

    private static TaflHall ringed(int[] attacker, int[] defender, int moves) {
        TaflHall hall = Halls.empty();
        hall.put(attacker[0], 1);
        hall.put(defender[0], 2);
        for (int i = 0; i < moves; i++) {
            int[] ring = i % 2 == 0 ? attacker : defender;
            int step = i / 2;
            hall.move(ring[step % ring.length], ring[(step + 1) % ring.length], 10);
        }
        return hall;
    }

    private static void noneIsMinusOne() {
        Document.opening("NONE is -1.");
        TaflHall hall = Halls.empty();
        for (int number : new int[] {3, 8, 10, 13}) {
            Checks.same("of(" + number + ")", hall.of(number), -1);
        }
        Checks.same("best(1)", hall.best(1), -1);
        Checks.same("best(2)", hall.best(2), -1);
    }

    private static void setsOfSquares() {
        Document.opening("A set of SQUARES is a long, the sum of 2^k for the number k of each.");
        Checks.same("no square", Halls.empty().reach(0), 0L);
        String none = Halls.NONE;
        Checks.same("the first square alone",
                Checks.hall(0, 1, ".Ka....", ".a.....", none, none, none, none, none).reach(1), 1L);
        Checks.same("the last square alone",
                Checks.hall(0, 1, none, none, none, none, none, ".....a.", "....aK.").reach(47), 281474976710656L);
        Checks.same("both, and all between them", Halls.alone(0, 6, 3).reach(6), 283691315109951L);
    }

    private static void squaresGoFrom0To48() {
        Document.section(1, "SQUARES are numbered from 0 to 48: 7 times the row and the column, both 0 to 6.");
        for (int square = 0; square < 49; square++) {
            TaflHall hall = Halls.alone(0, square, 3);
            Checks.same("at(" + square + ")", hall.at(square), 3);
            Checks.same("the king's square", hall.of(8), square);
            Checks.same("row and column of " + square, hall.row(square / 7).indexOf('K'), square % 7);
        }
    }

    private static void neighboursShareASide() {
        Document.section(1, "Neighbours share a side.");
        for (int square = 0; square < 49; square++) {
            long due = 0;
            for (int other = 0; other < 49; other++) {
                boolean inLine = other / 7 == square / 7 || other % 7 == square % 7;
                due |= inLine && other != square ? 1L << other : 0L;
            }
            Checks.same("a way around the edge from " + square, Halls.alone(0, square, 3).reach(square), due);
        }
    }

    private static void theThroneAndTheCorners() {
        Document.section(1, "The THRONE is SQUARE 24, CORNERS are 0, 6, 42 and 48.");
        Checks.same("the empty board", Checks.rows(Halls.empty()),
                "x.....x/......./......./...x.../......./......./x.....x/");
    }

    private static void oneKingAtMost() {
        Document.section(1, "the KING (3; at most one)");
        Checks.same("none", Halls.empty().of(8), -1);
        Checks.same("one", Halls.alone(0, 8, 3).of(8), 8);
        for (int square = 0; square < 49; square++) {
            int other = square;
            if (square != 8) {
                Checks.refusesState("a second one on " + square, () -> Halls.alone(0, 8, 3),
                        hall -> hall.put(other, 3));
            }
        }
    }

    private static void theBoardAsItBegins() {
        Document.section(1, "A BOARD as it begins: ATTACKERS on 3, 10, 21, 22, 26, 27, 38, 45, "
                + "DEFENDERS on 17, 23, 25, 31, the KING on 24; the SIDE 0 is to move.");
        long attackers = Checks.set(3, 10, 21, 22, 26, 27, 38, 45);
        long defenders = Checks.set(17, 23, 25, 31);
        TaflHall hall = new TaflHall();
        for (int square = 0; square < 49; square++) {
            int due = (attackers >> square & 1) != 0 ? 1 : (defenders >> square & 1) != 0 ? 2 : square == 24 ? 3 : 0;
            Checks.same("at(" + square + ")", hall.at(square), due);
        }
        Checks.same("the side to move", hall.of(1), 0);
    }

    private static void rulesAreASet() {
        Document.section(1, "RULES (a set, the sum of 1, 2, 4 and 8; 0 at first)");
        Checks.same("at first", new TaflHall().of(0), 0);
        TaflHall hall = new TaflHall();
        for (int rules = 0; rules < 16; rules++) {
            hall.begin(rules);
            Checks.same("the rules", hall.of(0), rules);
        }
    }

    private static void whereTheKingIsSafe() {
        Document.section(1, "8 the KING is safe on each SQUARE of the outermost rows and columns, "
                + "otherwise on CORNERS alone.");
        for (int square = 0; square < 49; square++) {
            for (int rules = 0; rules < 16; rules++) {
                boolean safe = rules >= 8 ? Halls.isEdge(square) : Halls.isCorner(square);
                TaflHall hall = Halls.alone(rules, square, 3);
                Checks.same("on " + square + " by rules " + rules, hall.of(10) == 0, safe);
                Checks.same("worth on " + square + " by rules " + rules, hall.worth() == 32.0, safe);
            }
        }
    }

    /** As it begins, with the rules and the knocks that are due. */
    private static void begun(String what, TaflHall hall, int rules, int knocks) {
        TaflHall other = new TaflHall();
        Checks.same(what + ": the board", Checks.rows(hall), Checks.rows(other));
        int[] due = {rules, 0, 0, -1, 0, 0, 8, 4, 24, 1, -1, 40, 0, -1, knocks};
        for (int number = 0; number < due.length; number++) {
            Checks.same(what + ": of(" + number + ")", hall.of(number), due[number]);
        }
        Checks.same(what + ": time(0)", hall.time(0), 600.0);
        Checks.same(what + ": time(1)", hall.time(1), 600.0);
        Checks.same(what + ": last()", hall.last(), "");
        Checks.thrown(what + ": back()", IllegalStateException.class, hall::back);
        Checks.thrown(what + ": again()", IllegalStateException.class, hall::again);
    }

    private static void aNewObject() {
        Document.promise(1, "Creates a hall with a BOARD as it begins.");
        begun("a new object", new TaflHall(), 0, 0);
        TaflHall used = new TaflHall();
        used.begin(15);
        used.move(3, 4, 4000);
        begun("beside another one", new TaflHall(), 0, 0);
    }

    private static void beginAnewFromEachEnd() {
        Document.promise(2, "Chooses RULES, and begins anew (BOARD, GAME, CLOCKS, no MOVES).");
        for (int i = 0; i < Halls.BY_END.length; i++) {
            TaflHall hall = Halls.BY_END[i].make();
            int knocks = hall.of(2) == 0 ? 0 : 1;
            if (knocks == 1) {
                hall.resign();
            }
            hall.begin(i);
            begun("from END " + Halls.ENDS[i], hall, i, knocks);
            Checks.same("a move is let", hall.move(3, 4, 0), 0);
        }
        TaflHall even = new TaflHall();
        for (int i = 0; i < 3; i++) {
            even.begin(0);
        }
        Checks.same("this board was there once since it was begun", even.of(9), 1);
        Checks.same("and the game goes on", even.of(2), 0);
    }

    private static void beginReturnsThatBefore() {
        Document.promise(2, "Returns that before.");
        TaflHall hall = new TaflHall();
        Checks.same("at first", hall.begin(15), 0);
        Checks.same("the largest", hall.begin(0), 15);
        Checks.same("the smallest", hall.begin(7), 0);
        hall.clear();
        Checks.same("behind a board set by hand", hall.begin(8), 7);
        hall.move(3, 4, 0);
        hall.back();
        Checks.same("behind a move taken back", hall.begin(8), 8);
    }

    private static void beginRefuses() {
        Document.promise(2, "Throws `IllegalArgumentException` if it is not 0 to 15");
        for (int i = 0; i < Halls.BY_END.length; i++) {
            Checks.Maker maker = Halls.BY_END[i];
            Checks.refusesArgument("begin(-1)", maker, hall -> hall.begin(-1));
            Checks.refusesArgument("begin(16)", maker, hall -> hall.begin(16));
            Checks.same("begin(0)", maker.make().begin(0), maker.make().of(0));
            Checks.same("begin(15)", maker.make().begin(15), maker.make().of(0));
        }
        for (int rules : FAR) {
            Checks.refusesArgument("begin(" + rules + ")", Halls::goingOn, hall -> hall.begin(rules));
        }
    }

    private static void clearAnyBoard() {
        Document.promise(3, "takes all PIECES away; the SIDE 0 is to move, END is 0, and TIMES stay.");
        Checks.Maker[] boards = {Halls::empty, Halls::full, Halls::goingOn, () -> Halls.alone(15, 0, 3)};
        for (Checks.Maker maker : boards) {
            TaflHall hall = maker.make();
            hall.side(1);
            int rules = hall.of(0);
            hall.clear();
            Checks.same("the board", Checks.rows(hall), Checks.rows(Halls.empty()));
            Checks.same("the side 0 is to move", hall.of(1), 0);
            Checks.same("rules stay", hall.of(0), rules);
            Checks.same("no king", hall.of(8), -1);
            Checks.same("no move", hall.of(11), 0);
        }
    }

    private static void clearCountsPieces() {
        Document.promise(3, "Returns how many PIECES there were.");
        Checks.same("the empty board", Halls.empty().clear(), 0);
        Checks.same("one attacker", Halls.alone(0, 1, 1).clear(), 1);
        Checks.same("one defender", Halls.alone(0, 1, 2).clear(), 1);
        Checks.same("the king alone", Halls.alone(0, 48, 3).clear(), 1);
        Checks.same("as it begins", Halls.fresh().clear(), 13);
        Checks.same("the full board", Halls.full().clear(), 45);
    }

    /** What a board set by hand leaves of a hall: its times, rules and knocks. */
    private static void setByHand(Checks.Maker maker, Checks.Use use) {
        TaflHall before = maker.make();
        TaflHall hall = maker.make();
        hall.resign();
        before.resign();
        use.on(hall);
        int[] numbers = {2, 3, 4, 5, 9, 12, 13};
        int[] due = {0, -1, 0, 0, 1, 0, -1};
        for (int i = 0; i < numbers.length; i++) {
            Checks.same("of(" + numbers[i] + ") from END " + before.of(2), hall.of(numbers[i]), due[i]);
        }
        Checks.same("last()", hall.last(), "");
        Checks.same("time(0) stays", hall.time(0), before.time(0));
        Checks.same("time(1) stays", hall.time(1), before.time(1));
        Checks.same("rules stay", hall.of(0), before.of(0));
        Checks.same("knocks stay", hall.of(14), before.of(14));
        Checks.thrown("back()", IllegalStateException.class, hall::back);
        Checks.thrown("again()", IllegalStateException.class, hall::again);
    }

    private static void clearFromEachEnd() {
        Document.promise(3, "Sets a BOARD by hand");
        for (Checks.Maker maker : Halls.BY_END) {
            setByHand(maker, TaflHall::clear);
        }
        setByHand(Halls::empty, TaflHall::clear);
    }

    private static void putFromEachEnd() {
        Document.promise(4, "Sets a BOARD by hand: one SQUARE; END is 0, and TIMES stay.");
        for (Checks.Maker maker : Halls.BY_END) {
            setByHand(maker, hall -> hall.put(12, 1));
            setByHand(maker, hall -> hall.put(0, 0));
            TaflHall before = maker.make();
            TaflHall hall = maker.make();
            hall.put(47, 2);
            Checks.same("the side to move stays", hall.of(1), before.of(1));
            Checks.same("what is set is there", hall.at(47), 2);
            for (int square = 0; square < 49; square++) {
                Checks.same("nothing else is set", square == 47 || hall.at(square) == before.at(square), true);
            }
        }
    }

    private static void putReturnsWhatWasThere() {
        Document.promise(4, "Returns what was there.");
        TaflHall hall = Halls.empty();
        int before = 0;
        int[] pieces = {0, 1, 1, 2, 2, 3, 3, 2, 1, 3, 1, 0, 2, 0, 3, 0};
        for (int piece : pieces) {
            Checks.same("put(8, " + piece + ")", hall.put(8, piece), before);
            Checks.same("at(8)", hall.at(8), piece);
            Checks.same("attackers", hall.of(6), piece == 1 ? 1 : 0);
            Checks.same("defenders", hall.of(7), piece == 2 ? 1 : 0);
            Checks.same("the king", hall.of(8), piece == 3 ? 8 : -1);
            before = piece;
        }
    }

    private static void putRefusesSquares() {
        Document.promise(4, "Throws `IndexOutOfBoundsException` if there is no such SQUARE");
        Checks.same("put(0, 3)", Halls.empty().put(0, 3), 0);
        Checks.same("put(48, 3)", Halls.empty().put(48, 3), 0);
        for (Checks.Maker maker : Halls.BY_END) {
            Checks.refusesSquare("put(-1, 1)", maker, hall -> hall.put(-1, 1));
            Checks.refusesSquare("put(49, 1)", maker, hall -> hall.put(49, 1));
        }
        for (int square : FAR) {
            Checks.refusesSquare("put(" + square + ", 0)", Halls::goingOn, hall -> hall.put(square, 0));
        }
    }

    private static void putRefusesPieces() {
        Document.promise(4, "Throws `IllegalArgumentException` if piece is not 0 to 3, "
                + "or it is 1 or 2 on the THRONE or a CORNER");
        for (Checks.Maker maker : Halls.BY_END) {
            Checks.refusesArgument("put(8, -1)", maker, hall -> hall.put(8, -1));
            Checks.refusesArgument("put(8, 4)", maker, hall -> hall.put(8, 4));
        }
        for (int piece : FAR) {
            Checks.refusesArgument("put(8, " + piece + ")", Halls::goingOn, hall -> hall.put(8, piece));
        }
        for (int square = 0; square < 49; square++) {
            int spot = square;
            for (int piece = 1; piece <= 2; piece++) {
                int one = piece;
                if (square == 24 || Halls.isCorner(square)) {
                    Checks.refusesArgument("put(" + square + ", " + piece + ")", Halls::empty,
                            hall -> hall.put(spot, one));
                } else {
                    Checks.same("put(" + square + ", " + piece + ")", Halls.empty().put(square, piece), 0);
                }
            }
            Checks.same("put(" + square + ", 3)", Halls.empty().put(square, 3), 0);
            Checks.same("put(" + square + ", 0)", Halls.empty().put(square, 0), 0);
        }
    }

    private static void putRefusesASecondKing() {
        Document.promise(4, "Throws `IllegalStateException` if piece is 3, and the KING is on another SQUARE");
        Checks.refusesState("beside him", Halls::goingOn, hall -> hall.put(16, 3));
        Checks.refusesState("over a defender", Halls::fresh, hall -> hall.put(23, 3));
        Checks.refusesState("on a corner", Halls::fresh, hall -> hall.put(0, 3));
        Checks.refusesState("on the last corner", Halls::kingSafe, hall -> hall.put(48, 3));
        Checks.refusesState("behind giving up", Halls::givenUp, hall -> hall.put(25, 3));
        Checks.same("on his own square", Halls.fresh().put(24, 3), 3);
        TaflHall gone = new TaflHall();
        gone.put(24, 0);
        Checks.same("he was taken away", gone.put(8, 3), 0);
        Checks.same("he was captured", Halls.kingCaptured().put(0, 3), 0);
        TaflHall over = Halls.alone(0, 8, 3);
        over.put(8, 2);
        Checks.same("a defender was set over him", over.put(9, 3), 0);
    }

    private static void putNamesTheFirstFault() {
        Document.allPromises("If several exceptions apply, the one that is named first is thrown.");
        Checks.refusesSquare("put(49, 4)", Halls::goingOn, hall -> hall.put(49, 4));
        Checks.refusesSquare("put(-1, -1)", Halls::goingOn, hall -> hall.put(-1, -1));
        Checks.refusesSquare("put(49, 3)", Halls::goingOn, hall -> hall.put(49, 3));
        // IllegalArgumentException and IllegalStateException of put never apply both: they ask for other pieces.
        Checks.refusesArgument("put(0, 2) with a king", Halls::goingOn, hall -> hall.put(0, 2));
    }

    private static void sideFromEachEnd() {
        Document.promise(5, "Sets a BOARD by hand: which SIDE is to move; END is 0, and TIMES stay.");
        for (Checks.Maker maker : Halls.BY_END) {
            setByHand(maker, hall -> hall.side(0));
            setByHand(maker, hall -> hall.side(1));
            String rows = Checks.rows(maker.make());
            TaflHall hall = maker.make();
            hall.side(1);
            Checks.same("the board stays", Checks.rows(hall), rows);
        }
    }

    private static void sideReturnsThatBefore() {
        Document.promise(5, "Returns that before.");
        TaflHall hall = new TaflHall();
        int[] sides = {0, 0, 1, 1, 0};
        int before = 0;
        for (int side : sides) {
            Checks.same("side(" + side + ")", hall.side(side), before);
            Checks.same("of(1)", hall.of(1), side);
            before = side;
        }
        hall.move(3, 4, 0);
        Checks.same("behind a move", hall.side(0), 1);
        Checks.same("with an end", Halls.kingCaptured().side(0), 1);
    }

    private static void sideRefuses() {
        Document.promise(5, "Throws `IllegalArgumentException` if it is not 0 or 1");
        for (Checks.Maker maker : Halls.BY_END) {
            Checks.refusesArgument("side(-1)", maker, hall -> hall.side(-1));
            Checks.refusesArgument("side(2)", maker, hall -> hall.side(2));
        }
        for (int side : FAR) {
            Checks.refusesArgument("side(" + side + ")", Halls::goingOn, hall -> hall.side(side));
        }
    }
}
