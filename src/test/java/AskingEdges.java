import java.math.BigInteger;

/** The edges that promises 10, 11 and 14 to 19 name, and section 4 as far as they ask for it: what one asks. */
final class AskingEdges {

    private static final String NONE = Halls.NONE;
    private static final int[] FAR = {Integer.MIN_VALUE, Integer.MAX_VALUE};
    private static final int ENOUGH_STEPS = 17;
    private static final String[] MAZE = {
        ".a.K.a.", "aaaa..a", "...aa..", ".a..aa.", "..a.a..", "a.a...a", "..aaaa.",
    };

    private AskingEdges() {
    }

    static void run() {
        atAnEmptySquare();
        atRefuses();
        rowSigns();
        rowOfThroneAndCorners();
        rowRefuses();
        ofWithoutAnything();
        ofTheSideThatWon();
        ofTheKingsSquare();
        ofHowOften();
        ofAllMovesWithAnEnd();
        ofCapturedPieces();
        ofTheLastMove();
        ofKnocksEver();
        ofRefuses();
        keyStartsWithOne();
        keyWrapsAround();
        keyIsOfTheSide();
        keyOfAnEnd();
        stepsOnASafeSquare();
        stepsWithoutAKing();
        stepsWithoutAWay();
        stepsOfTheKingAlone();
        stepsAreManyOrFew();
        timeRefuses();
        leadToTheNearestWhole();
        leadOfAHalf();
        leadIsNeverMinusZero();
        leadIsSixtyAtMost();
        lastWithoutAMove();
        lastWithCaptures();
        worthWithoutAKing();
        worthOfASafeKing();
        worthOfStepsWithoutAWay();
        worthOfManySteps();
        worthOfTheKingsSquares();
        worthInThisOrder();
        worthMadeDouble();
    }

    private static void atAnEmptySquare() {
        Document.promise(10, "Returns its PIECE; 0 on an empty one.");
        TaflHall empty = Halls.empty();
        TaflHall full = Halls.full();
        for (int square = 0; square < 49; square++) {
            Checks.same("empty, at(" + square + ")", empty.at(square), 0);
            int due = square == 24 ? 3 : Halls.isCorner(square) ? 0 : 1 + square % 2;
            Checks.same("full, at(" + square + ")", full.at(square), due);
        }
    }

    private static void atRefuses() {
        Document.promise(10, "Throws `IndexOutOfBoundsException` if there is no such SQUARE");
        Checks.same("the first", Halls.alone(0, 0, 3).at(0), 3);
        Checks.same("the last", Halls.alone(0, 48, 3).at(48), 3);
        for (Checks.Maker maker : Halls.BY_END) {
            Checks.refusesSquare("at(-1)", maker, hall -> hall.at(-1));
            Checks.refusesSquare("at(49)", maker, hall -> hall.at(49));
        }
        for (int square : FAR) {
            Checks.refusesSquare("at(" + square + ")", Halls::goingOn, hall -> hall.at(square));
        }
    }

    private static void rowSigns() {
        Document.promise(11, "Returns its SQUARES from the left on, each as one sign: "
                + "\".\" empty, \"a\", \"d\", \"K\"");
        TaflHall hall = Checks.hall(0, 0, ".a...d.", "adad.dK", "......a", "d......", NONE, "d.....a", ".d...a.");
        Checks.same("the rows", Checks.rows(hall), "xa...dx/adad.dK/......a/d..x.../......./d.....a/xd...ax/");
        Checks.same("the full board", Checks.rows(Halls.full()),
                "xdadadx/dadadad/adadada/dadKdad/adadada/dadadad/xdadadx/");
    }

    private static void rowOfThroneAndCorners() {
        Document.promise(11, "an empty THRONE or CORNER as \"x\"");
        Checks.same("all empty", Checks.rows(Halls.empty()),
                "x.....x/......./......./...x.../......./......./x.....x/");
        int[] squares = {0, 6, 24, 42, 48};
        String[] due = {"K.....x", "x.....K", "...K...", "K.....x", "x.....K"};
        for (int i = 0; i < squares.length; i++) {
            Checks.same("the king on " + squares[i], Halls.alone(0, squares[i], 3).row(squares[i] / 7), due[i]);
        }
        TaflHall left = Halls.alone(0, 24, 3);
        left.move(24, 25, 0);
        Checks.same("he left the throne", left.row(3), "...xK..");
    }

    private static void rowRefuses() {
        Document.promise(11, "Throws `IndexOutOfBoundsException` if it is not 0 to 6");
        Checks.same("the first", Halls.fresh().row(0), "x..a..x");
        Checks.same("the last", Halls.fresh().row(6), "x..a..x");
        for (Checks.Maker maker : Halls.BY_END) {
            Checks.refusesSquare("row(-1)", maker, hall -> hall.row(-1));
            Checks.refusesSquare("row(7)", maker, hall -> hall.row(7));
        }
        for (int row : FAR) {
            Checks.refusesSquare("row(" + row + ")", Halls::goingOn, hall -> hall.row(row));
        }
    }

    private static void numbers(String what, TaflHall hall, int... due) {
        for (int number = 0; number < due.length; number++) {
            Checks.same(what + ": of(" + number + ")", hall.of(number), due[number]);
        }
    }

    private static void ofWithoutAnything() {
        Document.promise(14, "0 RULES, 1 the SIDE that is to move, 2 END, 3 the SIDE that won (NONE, if none did), "
                + "4 MOVES that can be taken back, 5 MOVES that can be done again, 6 ATTACKERS, 7 DEFENDERS");
        numbers("the empty board", Halls.empty(), 0, 0, 0, -1, 0, 0, 0, 0, -1, 1, -1, 0, 0, -1, 0);
        numbers("the full board", Halls.full(), 0, 0, 0, -1, 0, 0, 20, 24, 24, 1, -1, 0, 0, -1, 0);
        numbers("moves both ways", Halls.goingOn(), 9, 0, 0, -1, 2, 1, 8, 4, 24, 1, 2, 43, 0, 1718, 0);
    }

    private static void ofTheSideThatWon() {
        Document.promise(14, "3 the SIDE that won (NONE, if none did)");
        for (int i = 0; i < Halls.BY_END.length; i++) {
            Checks.same("END " + Halls.ENDS[i], Halls.BY_END[i].make().of(3), Halls.WINNERS[i]);
        }
    }

    private static void ofTheKingsSquare() {
        Document.promise(14, "8 the SQUARE of the KING (NONE)");
        Checks.same("none", Halls.empty().of(8), -1);
        Checks.same("captured", Halls.kingCaptured().of(8), -1);
        Checks.same("the first", Halls.alone(0, 0, 3).of(8), 0);
        Checks.same("the last", Halls.alone(0, 48, 3).of(8), 48);
    }

    private static void ofHowOften() {
        Document.promise(14, "9 how often this BOARD was there (section 3, 4; with this time; 1 or more)");
        Checks.same("a new object", Halls.fresh().of(9), 1);
        Checks.same("the empty board", Halls.empty().of(9), 1);
        Checks.same("the most", Halls.even().of(9), 3);
        TaflHall even = Halls.even();
        even.back();
        Checks.same("taken back", even.of(9), 2);
        TaflHall late = Halls.even();
        late.back();
        late.move(40, 39, 4000);
        Checks.same("lost by the clock", late.of(9), 3);
        TaflHall given = Halls.even();
        given.back();
        given.resign();
        Checks.same("given up", given.of(9), 2);
    }

    private static void ofAllMovesWithAnEnd() {
        Document.promise(14, "11 all MOVES that the SIDE to move has (also with an END)");
        int[] due = {43, 12, 12, 0, 12, 23, 23};
        for (int i = 0; i < due.length; i++) {
            TaflHall hall = Halls.BY_END[i].make();
            Checks.same("END " + Halls.ENDS[i], hall.of(11), due[i]);
            Checks.same("by reach(), END " + Halls.ENDS[i], hall.of(11), countByReach(hall));
        }
        Checks.same("many", Halls.many().of(11), 98);
        Checks.same("many by reach()", countByReach(Halls.many()), 98);
        Checks.same("none on the full board", Halls.full().of(11), 0);
        for (int square = 0; square < 49; square++) {
            Checks.same("the king alone on " + square, Halls.alone(0, square, 3).of(11), 12);
        }
    }

    private static int countByReach(TaflHall hall) {
        int count = 0;
        for (int square = 0; square < 49; square++) {
            int piece = hall.at(square);
            if (piece != 0 && (piece == 1 ? 0 : 1) == hall.of(1)) {
                count += Long.bitCount(hall.reach(square));
            }
        }
        return count;
    }

    private static void ofCapturedPieces() {
        Document.promise(14, "12 PIECES that were captured by MOVES that can be taken back");
        TaflHall hall = Checks.hall(0, 0, "..a....", ".......", "ad.Ka..", NONE, NONE, ".d.....", NONE);
        Checks.same("none", hall.of(12), 0);
        hall.move(2, 16, 0);
        Checks.same("the king, too", hall.of(12), 2);
        hall.back();
        Checks.same("taken back", hall.of(12), 0);
        hall.again();
        Checks.same("done again", hall.of(12), 2);
        hall.put(0, 0);
        Checks.same("forgotten", hall.of(12), 0);
        TaflHall both = Checks.hall(0, 0, "..a....", NONE, "...da..", NONE, "..a.d..", NONE, "...d...");
        both.move(2, 16, 0);
        both.move(32, 31, 0);
        both.move(16, 17, 0);
        Checks.same("of both sides", both.of(12), 1);
    }

    private static void ofTheLastMove() {
        Document.promise(14, "13 the last MOVE that can be taken back as a number (NONE)");
        Checks.same("none", Halls.fresh().of(13), -1);
        Checks.same("the last of two", Halls.goingOn().of(13), 1718);
        TaflHall hall = Halls.goingOn();
        hall.back();
        Checks.same("the first of two", hall.of(13), 304);
        hall.back();
        Checks.same("none is left", hall.of(13), -1);
        hall.again();
        Checks.same("done again", hall.of(13), 304);
    }

    private static void ofKnocksEver() {
        Document.promise(14, "14 KNOCKS ever");
        TaflHall hall = new TaflHall();
        Checks.same("none", hall.of(14), 0);
        hall.resign();
        Checks.same("giving up is none", hall.of(14), 0);
        for (int knocks = 1; knocks <= 100; knocks++) {
            hall.resign();
            Checks.same("knocks", hall.of(14), knocks);
        }
        hall.begin(0);
        hall.resign();
        hall.resign();
        Checks.same("of two games", hall.of(14), 101);
        Checks.same("another object has none", Halls.fresh().of(14), 0);
    }

    private static void ofRefuses() {
        Document.promise(14, "Throws `IllegalArgumentException` if what is not 0 to 14");
        Checks.same("the first", Halls.goingOn().of(0), 9);
        Checks.same("the last", Halls.goingOn().of(14), 0);
        for (Checks.Maker maker : Halls.BY_END) {
            Checks.refusesArgument("of(-1)", maker, hall -> hall.of(-1));
            Checks.refusesArgument("of(15)", maker, hall -> hall.of(15));
        }
        for (int what : FAR) {
            Checks.refusesArgument("of(" + what + ")", Halls::goingOn, hall -> hall.of(what));
        }
    }

    /** The key without wrapping around, and then what a long keeps of it. */
    private static BigInteger wholeKey(TaflHall hall) {
        BigInteger key = BigInteger.ONE;
        for (int square = 0; square < 49; square++) {
            key = key.multiply(BigInteger.valueOf(5)).add(BigInteger.valueOf(hall.at(square)));
        }
        return key.multiply(BigInteger.valueOf(5)).add(BigInteger.valueOf(hall.of(1)));
    }

    private static void keyStartsWithOne() {
        Document.section(4, "a long k that starts with 1, and becomes k * 5 and the PIECE (0 on an empty one) "
                + "for each SQUARE from 0 on");
        long empty = BigInteger.valueOf(5).pow(50).longValue();
        Checks.same("the empty board", Halls.empty().key(), empty);
        for (int square = 0; square < 49; square++) {
            long factor = BigInteger.valueOf(5).pow(49 - square).longValue();
            TaflHall king = Halls.alone(0, square, 3);
            Checks.same("the king on " + square, king.key(), empty + 3 * factor + 1);
            if (square != 24 && !Halls.isCorner(square)) {
                Checks.same("an attacker on " + square, Halls.alone(0, square, 1).key(), empty + factor);
                Checks.same("a defender on " + square, Halls.alone(0, square, 2).key(), empty + 2 * factor + 1);
            }
        }
    }

    private static void keyWrapsAround() {
        Document.section(4, "(it wraps around as a 64-bit integer)");
        Checks.Maker[] makers = {Halls::fresh, Halls::empty, Halls::full, Halls::goingOn, Halls::kingCaptured};
        boolean below = false;
        boolean above = false;
        for (Checks.Maker maker : makers) {
            TaflHall hall = maker.make();
            BigInteger whole = wholeKey(hall);
            Checks.same("too large for a long", whole.bitLength() > 64, true);
            Checks.same("the key", hall.key(), whole.longValue());
            below |= hall.key() < 0;
            above |= hall.key() > 0;
        }
        Checks.same("below and above 0", below && above, true);
    }

    private static void keyIsOfTheSide() {
        Document.section(4, "then k * 5 and the SIDE that is to move");
        TaflHall hall = new TaflHall();
        long first = hall.key();
        hall.side(1);
        Checks.same("the side 1", hall.key(), first + 1);
        hall.side(0);
        Checks.same("the side 0", hall.key(), first);
        hall.begin(15);
        Checks.same("rules are not in it", hall.key(), first);
    }

    private static void keyOfAnEnd() {
        Document.promise(15, "Returns the KEY.");
        for (Checks.Maker maker : Halls.BY_END) {
            TaflHall hall = maker.make();
            Checks.same("END " + hall.of(2), hall.key(), wholeKey(hall).longValue());
        }
        TaflHall hall = Halls.goingOn();
        long key = hall.key();
        hall.resign();
        Checks.same("giving up changes no board", hall.key(), key);
    }

    private static void stepsOnASafeSquare() {
        Document.section(4, "0 on such a one");
        Checks.same("on a corner", Halls.alone(0, 6, 3).of(10), 0);
        Checks.same("at the edge", Halls.alone(8, 5, 3).of(10), 0);
        Checks.same("shut in on a corner",
                Checks.hall(0, 0, "Ka.....", "a......", NONE, NONE, NONE, NONE, NONE).of(10), 0);
        Checks.same("as he came", Halls.kingSafe().of(10), 0);
    }

    private static void stepsWithoutAKing() {
        Document.section(4, "NONE without a KING or a way");
        Checks.same("the empty board", Halls.empty().of(10), -1);
        Checks.same("captured", Halls.kingCaptured().of(10), -1);
        Checks.same("nobody but him is missing", Halls.shuttle().of(10), -1);
    }

    private static void stepsWithoutAWay() {
        Document.section(4, "NONE without a KING or a way");
        Checks.same("the full board", Halls.full().of(10), -1);
        Checks.same("by attackers", Checks.hall(8, 0, NONE, NONE, "...a...", "..aKa..", "...a...", NONE, NONE).of(10),
                -1);
        Checks.same("by defenders", Checks.hall(8, 0, NONE, NONE, "...d...", "..dKd..", "...d...", NONE, NONE).of(10),
                -1);
        String[] wall = {".a...a.", "aa...aa", NONE, "...K...", NONE, "aa...aa", ".a...a."};
        Checks.same("all corners are shut", Checks.hall(0, 0, wall).of(10), -1);
        Checks.same("but not the edge", Checks.hall(8, 0, wall).of(10), 1);
    }

    private static void stepsOfTheKingAlone() {
        Document.section(4, "the fewest MOVES of it alone, as nobody else moves and nothing is captured");
        // The armed king would capture the attacker on 10 by going to 9, which would let him out.
        Checks.same("shut in by one that he could capture",
                Checks.hall(2, 1, ".aaaaa.", "aK.ad..", "aaaaa..", NONE, NONE, NONE, NONE).of(10), -1);
        Checks.same("over the throne",
                Checks.hall(8, 1, NONE, NONE, "..a....", ".aK....", "..a....", NONE, NONE).of(10), 1);
        Checks.same("whoever is to move", Checks.hall(0, 0, NONE, "..K....", NONE, NONE, NONE, NONE, NONE).of(10), 2);
    }

    private static void stepsAreManyOrFew() {
        Document.section(4, "the fewest MOVES of it alone");
        Checks.same("one", Halls.alone(0, 3, 3).of(10), 1);
        Checks.same("two", Halls.alone(0, 24, 3).of(10), 2);
        Checks.same("many", Checks.hall(0, 0, MAZE).of(10), ENOUGH_STEPS);
        Checks.same("none in the maze", Checks.hall(8, 0, MAZE).of(10), 0);
    }

    private static void timeRefuses() {
        Document.promise(16, "Throws `IllegalArgumentException` if it is not 0 or 1");
        Checks.same("time(0)", Halls.lostByClock().time(0), -400.0);
        Checks.same("time(1)", Halls.lostByClock().time(1), 600.0);
        for (Checks.Maker maker : Halls.BY_END) {
            Checks.refusesArgument("time(-1)", maker, hall -> hall.time(-1));
            Checks.refusesArgument("time(2)", maker, hall -> hall.time(2));
        }
        for (int side : FAR) {
            Checks.refusesArgument("time(" + side + ")", Halls::goingOn, hall -> hall.time(side));
        }
    }

    /** A hall by so many quarters of a second more for the side 1; they are negative if the side 0 has more. */
    private static TaflHall ahead(int quarters) {
        TaflHall hall = new TaflHall();
        hall.move(3, 4, 300 + Math.max(0, quarters));
        hall.move(17, 18, 300 + Math.max(0, -quarters));
        return hall;
    }

    private static void leadToTheNearestWhole() {
        Document.promise(17, "to the nearest whole");
        double[] due = {0, 0, 0, 1, 1, 1, 2, 2, 2, 2, 2, 3, 3};
        for (int quarters = 0; quarters < due.length; quarters++) {
            Checks.same("ahead by " + quarters, ahead(quarters).lead(), due[quarters]);
            Checks.same("behind by " + quarters, ahead(-quarters).lead(), quarters < 3 ? 0.0 : -due[quarters]);
        }
    }

    private static void leadOfAHalf() {
        Document.promise(17, "(of a half to the even one");
        for (int whole = 0; whole < 62; whole++) {
            double due = Math.min(60.0, whole % 2 == 0 ? whole : whole + 1);
            Checks.same("ahead by a half and " + whole, ahead(4 * whole + 2).lead(), due);
            Checks.same("behind by a half and " + whole, ahead(-4 * whole - 2).lead(), due == 0.0 ? 0.0 : -due);
        }
    }

    private static void leadIsNeverMinusZero() {
        Document.promise(17, "never -0.0)");
        long zero = Double.doubleToRawLongBits(0.0);
        Checks.same("no lead", Double.doubleToRawLongBits(Halls.fresh().lead()), zero);
        for (int quarters = -2; quarters <= 2; quarters++) {
            Checks.same("by " + quarters, Double.doubleToRawLongBits(ahead(quarters).lead()), zero);
        }
        TaflHall both = ahead(2400 - 300);
        both.back();
        both.move(17, 18, 2400);
        Checks.same("both at 2.5", Double.doubleToRawLongBits(both.lead()), zero);
    }

    private static void leadIsSixtyAtMost() {
        Document.promise(17, "60.0 at most without its sign");
        int[] quarters = {236, 237, 238, 239, 240, 241, 242, 243, 244, 2000};
        double[] due = {59.0, 59.0, 60.0, 60.0, 60.0, 60.0, 60.0, 60.0, 60.0, 60.0};
        for (int i = 0; i < quarters.length; i++) {
            Checks.same("ahead by " + quarters[i], ahead(quarters[i]).lead(), due[i]);
            Checks.same("behind by " + quarters[i], ahead(-quarters[i]).lead(), -due[i]);
        }
        Checks.same("ahead by 1000", Halls.lostByClock().lead(), 60.0);
        TaflHall behind = new TaflHall();
        behind.move(3, 4, 0);
        behind.move(17, 18, 4000);
        Checks.same("behind by 1002.5", behind.lead(), -60.0);
    }

    private static void lastWithoutAMove() {
        Document.promise(18, "\"\" without one.");
        Checks.same("a new object", Halls.fresh().last(), "");
        Checks.same("set by hand", Halls.empty().last(), "");
        TaflHall begun = Halls.goingOn();
        begun.begin(0);
        Checks.same("begun", begun.last(), "");
        TaflHall back = Halls.goingOn();
        back.back();
        Checks.same("one is left", back.last(), "3-4");
        back.back();
        Checks.same("all taken back", back.last(), "");
    }

    private static void lastWithCaptures() {
        Document.promise(18, "both SQUARES with \"-\" between, and \"x\" and how many it captured, if it did "
                + "(\"24-26\", \"3-2x1\")");
        String[][] rows = {
            {"..a....", NONE, ".d.d...", NONE, NONE, ".d.....", NONE},
            {"..a....", NONE, ".d.da..", NONE, NONE, ".d.....", NONE},
            {"..a....", NONE, "ad.Ka..", NONE, NONE, ".d.....", NONE},
        };
        String[] due = {"2-16", "2-16x1", "2-16x2"};
        for (int i = 0; i < due.length; i++) {
            TaflHall hall = Checks.hall(0, 0, rows[i]);
            hall.move(2, 16, 0);
            Checks.same("captured " + i, hall.last(), due[i]);
        }
        TaflHall three = Checks.hall(0, 0, "..a....", "..d....", "ad.da..", NONE, NONE, ".d.....", "..a....");
        three.move(44, 16, 0);
        Checks.same("captured 3", three.last(), "44-16x3");
        TaflHall zero = Halls.alone(0, 0, 3);
        zero.move(0, 1, 0);
        Checks.same("from the first square", zero.last(), "0-1");
    }

    private static void worthWithoutAKing() {
        Document.section(4, "but without a KING -32f");
        Checks.same("the empty board", Halls.empty().worth(), -32.0);
        Checks.same("captured", Halls.kingCaptured().worth(), -32.0);
        TaflHall hall = Halls.full();
        hall.put(24, 0);
        Checks.same("the full board without him", hall.worth(), -32.0);
    }

    private static void worthOfASafeKing() {
        Document.section(4, "and with one that is safe 32f");
        Checks.same("as he came", Halls.kingSafe().worth(), 32.0);
        for (int square = 0; square < 49; square++) {
            Checks.same("set on " + square, Halls.alone(0, square, 3).worth() == 32.0, Halls.isCorner(square));
            Checks.same("set on " + square + " by the rule 8", Halls.alone(8, square, 3).worth() == 32.0,
                    Halls.isEdge(square));
        }
    }

    private static void worthOfStepsWithoutAWay() {
        Document.section(4, "less 0.125f times STEPS (8 STEPS without a way)");
        Checks.same("one step", Halls.alone(0, 3, 3).worth(), 12 / 8.0 - 0.125);
        Checks.same("two steps", Halls.alone(0, 24, 3).worth(), 12 / 8.0 - 0.25);
        Checks.same("no way and no square", Checks.hall(0, 0, NONE, NONE, "...a...", "..aKa..", "...a...", NONE, NONE)
                .worth(), -1.0 - 1.0);
        String[] wall = {".a...a.", "aa...aa", NONE, "...K...", NONE, "aa...aa", ".a...a."};
        Checks.same("no way", Checks.hall(0, 0, wall).worth(), -0.25 * 12 + 12 / 8.0 - 1.0);
        Checks.same("one step by the rule 8", Checks.hall(8, 0, wall).worth(), -0.25 * 12 + 12 / 8.0 - 0.125);
    }

    private static void worthOfManySteps() {
        Document.section(4, "less 0.125f times STEPS");
        TaflHall hall = Checks.hall(0, 0, MAZE);
        Checks.same("more steps than without a way", hall.worth(),
                -0.25 * hall.of(6) + Long.bitCount(hall.reach(3)) / 8.0 - 0.125 * ENOUGH_STEPS);
    }

    private static void worthOfTheKingsSquares() {
        Document.section(4, "1f times the number of SQUARES to which the KING could MOVE (as if it was to move), "
                + "this divided by 8f");
        String[] rows = {NONE, ".d...d.", NONE, "...K...", NONE, ".a.d...", NONE};
        for (int side = 0; side <= 1; side++) {
            TaflHall hall = Checks.hall(0, side, rows);
            Checks.same("three defenders and an attacker, ten squares", hall.worth(),
                    0.5 * 3 - 0.25 + 10 / 8.0 - 0.125 * 2);
            hall.resign();
            Checks.same("with an end", hall.worth(), 0.5 * 3 - 0.25 + 10 / 8.0 - 0.125 * 2);
        }
        Checks.same("the throne and corners are among them",
                Checks.hall(0, 0, NONE, NONE, NONE, NONE, NONE, NONE, "...K...").worth(), 12 / 8.0 - 0.125);
    }

    private static void worthInThisOrder() {
        Document.section(4, "WORTH (float) for the SIDE 1: 0.5f times DEFENDERS, less 0.25f times ATTACKERS");
        Checks.same("as it begins", Halls.fresh().worth(), 0.5 * 4 - 0.25 * 8 - 1.0);
        Checks.same("the full board", Halls.full().worth(), 0.5 * 24 - 0.25 * 20 - 1.0);
        TaflHall attackers = Halls.full();
        TaflHall defenders = Halls.full();
        for (int square = 0; square < 49; square++) {
            if (square != 24 && !Halls.isCorner(square)) {
                attackers.put(square, 1);
                defenders.put(square, 2);
            }
        }
        Checks.same("attackers alone", attackers.worth(), -0.25 * 44 - 1.0);
        Checks.same("defenders alone", defenders.worth(), 0.5 * 44 - 1.0);
    }

    private static void worthMadeDouble() {
        Document.promise(19, "Returns the WORTH, made double.");
        for (int i = 0; i < Halls.BY_END.length; i++) {
            TaflHall goesOn = Halls.BY_END[i].make();
            goesOn.put(0, goesOn.at(0));
            Checks.same("END " + Halls.ENDS[i], Halls.BY_END[i].make().worth(), goesOn.worth());
        }
        Checks.same("an eighth", Checks.hall(0, 0, "...d...", NONE, NONE, ".a.K...", NONE, NONE, NONE).worth(),
                0.5 - 0.25 + 9 / 8.0 - 0.25);
    }
}
