/** The edges that section 2 and promises 6, 12 and 13 name: where pieces go, and what they capture. */
final class MoveEdges {

    private static final int[] FAR = {Integer.MIN_VALUE, Integer.MAX_VALUE};
    private static final int[] WAYS = {-7, -1, 1, 7};
    private static final int[] CORNERS = {0, 6, 42, 48};

    // Where a piece goes to in most tests: neither a corner nor the throne is within two squares of it in line.
    private static final int MIDDLE = 32;

    private MoveEdges() {
    }

    static void run() {
        onlyTheSideToMove();
        alongRowOrColumn();
        overEmptySquares();
        byOneSquareOrMore();
        onlyTheKingEndsThere();
        othersPassTheThrone();
        besideTheEdge();
        onlyTheOtherSide();
        inTheSameDirection();
        helpersAreOfTheMovingSide();
        theKingHelpsJustIfArmed();
        emptyCornersHelp();
        takenCornersDoNot();
        theThroneHelpsByRule();
        aTakenThroneDoesNot();
        otherEmptySquaresDoNot();
        anUnarmedKingCapturesNothing();
        aWeakKing();
        aWeakKingByHostileSquares();
        aStrongKing();
        aStrongKingBesideTheThrone();
        aStrongKingAtTheEdge();
        allAtOnce();
        asTheMoveLeftTheBoard();
        moveReturnsHowMany();
        moveRefusesSquares();
        moveRefusesQuarters();
        moveRefusesAnEnd();
        moveNamesTheFirstFault();
        reachOfAnyPiece();
        reachRefuses();
        takesOfAnyPiece();
        takesRefusesSquares();
        takesRefusesOthers();
        takesNamesTheFirstFault();
    }

    /** A hall of pieces given by squares and numbers in turn. */
    private static TaflHall hall(int rules, int side, int... squaresAndPieces) {
        TaflHall hall = new TaflHall();
        hall.begin(rules);
        hall.clear();
        for (int i = 0; i < squaresAndPieces.length; i += 2) {
            hall.put(squaresAndPieces[i], squaresAndPieces[i + 1]);
        }
        hall.side(side);
        return hall;
    }

    /** The move captures just what stands on these squares; takes() says so ahead of it. */
    private static void captures(String what, TaflHall hall, int from, int to, int... due) {
        Checks.same(what + ": takes", hall.takes(from, to), Checks.set(due));
        int[] before = new int[49];
        for (int square = 0; square < 49; square++) {
            before[square] = hall.at(square);
        }
        Checks.same(what + ": move", hall.move(from, to, 0), due.length);
        before[to] = before[from];
        before[from] = 0;
        for (int square : due) {
            before[square] = 0;
        }
        for (int square = 0; square < 49; square++) {
            Checks.same(what + ": at(" + square + ")", hall.at(square), before[square]);
        }
    }

    /** A piece that moves to the middle has a piece beside it, and something behind that. */
    private static void inLine(String what, int rules, int mover, int beside, int behind, boolean due) {
        for (int way : WAYS) {
            int victim = MIDDLE + way;
            TaflHall hall = hall(rules, mover == 1 ? 0 : 1, MIDDLE - way, mover, victim, beside, victim + way, behind);
            captures(what + ", rules " + rules + ", way " + way, hall, MIDDLE - way, MIDDLE,
                    due ? new int[] {victim} : new int[0]);
        }
    }

    private static void onlyTheSideToMove() {
        Document.section(2, "A PIECE of the SIDE that is to move goes");
        Checks.refusesArgument("the other side's piece", Halls::fresh, hall -> hall.move(17, 16, 0));
        Checks.refusesArgument("the other side's king", () -> hall(0, 0, 24, 3, 8, 1), hall -> hall.move(24, 25, 0));
        Checks.refusesArgument("an attacker", () -> hall(0, 1, 24, 3, 8, 1), hall -> hall.move(8, 9, 0));
        Checks.refusesArgument("an empty square", Halls::fresh, hall -> hall.move(8, 9, 0));
        Checks.refusesArgument("on the empty board", Halls::empty, hall -> hall.move(8, 9, 0));
        Checks.same("a defender", hall(0, 1, 8, 2).move(8, 9, 0), 0);
        Checks.same("the king", hall(0, 1, 8, 3).move(8, 9, 0), 0);
        Checks.same("an attacker", hall(0, 0, 8, 1).move(8, 9, 0), 0);
    }

    private static void alongRowOrColumn() {
        Document.section(2, "goes along its row or column");
        int[] askew = {0, 1, 2, 7, 9, 14, 15, 18, 24, 28, 32, 40, 48};
        for (int goal : askew) {
            if (goal % 7 != 3 && goal / 7 != 1) {
                Checks.refusesArgument("10 to " + goal, () -> hall(0, 1, 10, 3), hall -> hall.move(10, goal, 0));
            }
        }
        Checks.refusesArgument("around the right edge", () -> hall(0, 1, 13, 3), hall -> hall.move(13, 14, 0));
        Checks.refusesArgument("around the left edge", () -> hall(0, 1, 14, 3), hall -> hall.move(14, 13, 0));
    }

    private static void overEmptySquares() {
        Document.section(2, "over empty SQUARES");
        for (int piece = 1; piece <= 3; piece++) {
            int other = piece;
            Checks.Maker wall = () -> hall(0, 0, 7, 1, 10, other, 35, 1);
            Checks.same("up to it", wall.make().move(7, 9, 0), 0);
            Checks.refusesArgument("onto piece " + piece, wall, hall -> hall.move(7, 10, 0));
            Checks.refusesArgument("over piece " + piece, wall, hall -> hall.move(7, 11, 0));
            Checks.refusesArgument("to the far end over piece " + piece, wall, hall -> hall.move(7, 13, 0));
        }
    }

    private static void byOneSquareOrMore() {
        Document.section(2, "by one SQUARE or more");
        for (int way : WAYS) {
            Checks.refusesArgument("by none", () -> hall(0, 0, MIDDLE, 1), hall -> hall.move(MIDDLE, MIDDLE, 0));
            Checks.same("by one", hall(0, 0, MIDDLE, 1).move(MIDDLE, MIDDLE + way, 0), 0);
            Checks.same("by two", hall(0, 0, MIDDLE, 1).move(MIDDLE, MIDDLE + 2 * way, 0), 0);
        }
        Checks.same("by six to the right", hall(0, 0, 7, 1).move(7, 13, 0), 0);
        Checks.same("by six to the left", hall(0, 0, 13, 1).move(13, 7, 0), 0);
        Checks.same("by six down", hall(0, 0, 1, 1).move(1, 43, 0), 0);
        Checks.same("by six up", hall(0, 0, 43, 1).move(43, 1, 0), 0);
    }

    private static void onlyTheKingEndsThere() {
        Document.section(2, "Only the KING may end on the THRONE or a CORNER");
        int[] from = {1, 5, 43, 47, 7, 13, 35, 41, 22, 26, 10, 38};
        int[] to = {0, 6, 42, 48, 0, 6, 42, 48, 24, 24, 24, 24};
        for (int i = 0; i < from.length; i++) {
            int start = from[i];
            int goal = to[i];
            for (int piece = 1; piece <= 2; piece++) {
                int one = piece;
                Checks.refusesArgument(start + " to " + goal + " by piece " + piece,
                        () -> hall(15, one == 1 ? 0 : 1, start, one), hall -> hall.move(start, goal, 0));
            }
            Checks.same(start + " to " + goal + " by the king", hall(0, 1, start, 3).move(start, goal, 0), 0);
        }
    }

    private static void othersPassTheThrone() {
        Document.section(2, "others may pass over the THRONE");
        for (int way : WAYS) {
            for (int piece = 1; piece <= 3; piece++) {
                int one = piece;
                int side = piece == 1 ? 0 : 1;
                for (int far = 1; far <= 3; far++) {
                    TaflHall hall = hall(0, side, 24 - way, piece);
                    Checks.same("piece " + piece, hall.move(24 - way, 24 + far * way, 0), 0);
                }
                if (piece != 3) {
                    Checks.refusesArgument("not over the king on it", () -> hall(0, side, 24 - way, one, 24, 3),
                            hall -> hall.move(24 - way, 24 + way, 0));
                }
            }
        }
    }

    private static void besideTheEdge() {
        Document.section(2, "if behind it, in the same direction, there is a PIECE that helps");
        captures("nothing is behind the top", hall(0, 0, 9, 1, 3, 2), 9, 10);
        captures("nothing is behind the bottom", hall(0, 0, 37, 1, 45, 2), 37, 38);
        captures("nothing is behind the left edge", hall(0, 0, 15, 1, 21, 2), 15, 22);
        captures("nothing is behind the right edge", hall(0, 0, 19, 1, 27, 2), 19, 26);
        captures("not 14 behind 13", hall(0, 0, 5, 1, 13, 2, 14, 1), 5, 12);
        captures("not 13 behind 14", hall(0, 0, 8, 1, 14, 2, 13, 1), 8, 15);
        captures("not 45 behind 3", hall(0, 0, 9, 1, 3, 2, 45, 1), 9, 10);
        captures("not 28 behind 28 and 27", hall(0, 0, 19, 1, 27, 2, 28, 1), 19, 26);
        captures("14 is not beside 13", hall(0, 0, 12, 1, 14, 2, 15, 1), 12, 13);
        captures("13 is not beside 14", hall(0, 0, 15, 1, 13, 2, 12, 1), 15, 14);
        captures("along the top", hall(0, 0, 8, 1, 2, 2, 3, 1), 8, 1, 2);
        captures("along the last column", hall(0, 0, 12, 1, 20, 2, 27, 1), 12, 13, 20);
    }

    private static void onlyTheOtherSide() {
        Document.section(2, "A PIECE of the other SIDE there (other than a KING) is captured");
        for (int rules = 0; rules < 16; rules++) {
            inLine("a defender between attackers", rules, 1, 2, 1, true);
            inLine("an attacker between defenders", rules, 2, 1, 2, true);
            inLine("attackers beside each other", rules, 1, 1, 1, false);
            inLine("defenders beside each other", rules, 2, 2, 2, false);
            inLine("the king between defenders", rules, 2, 3, 2, false);
            inLine("nothing there", rules, 1, 0, 1, false);
        }
        captures("who goes between two is not captured", hall(0, 0, 2, 1, 15, 2, 17, 2), 2, 16);
        captures("nor the king who goes between two", hall(0, 1, 2, 3, 15, 1, 17, 1), 2, 16);
    }

    private static void inTheSameDirection() {
        Document.section(2, "behind it, in the same direction");
        for (int way : WAYS) {
            int victim = MIDDLE + way;
            for (int aside : WAYS) {
                if (Math.abs(aside) != Math.abs(way) && victim + aside != 24) {
                    captures("askew", hall(0, 0, MIDDLE - way, 1, victim, 2, victim + aside, 1), MIDDLE - way, MIDDLE);
                }
            }
        }
        captures("not behind a gap", hall(0, 0, 2, 1, 17, 2, 19, 1), 2, 16);
        captures("not two in a line", hall(0, 0, 2, 1, 17, 2, 18, 2, 19, 1), 2, 16);
        captures("not from a square away", hall(0, 0, 1, 1, 17, 2, 18, 1), 1, 15);
    }

    private static void helpersAreOfTheMovingSide() {
        Document.section(2, "one of the SIDE that moved");
        for (int rules = 0; rules < 16; rules++) {
            inLine("a defender behind a defender", rules, 1, 2, 2, false);
            inLine("the king behind a defender", rules, 1, 2, 3, false);
            inLine("an attacker behind an attacker", rules, 2, 1, 1, false);
            inLine("an attacker behind one beside the king", rules, 3, 1, 1, false);
        }
    }

    private static void theKingHelpsJustIfArmed() {
        Document.section(2, "(the KING just if it is ARMED)");
        for (int rules = 0; rules < 16; rules++) {
            inLine("the king helps", rules, 2, 1, 3, (rules & 2) != 0);
        }
    }

    private static void emptyCornersHelp() {
        Document.section(2, "or the SQUARE is empty and HOSTILE: a CORNER");
        for (int rules = 0; rules < 16; rules++) {
            for (int corner : CORNERS) {
                for (int inward : new int[] {corner % 7 == 0 ? 1 : -1, corner / 7 == 0 ? 7 : -7}) {
                    byHostile("by corner " + corner, rules, corner, inward, true);
                }
            }
        }
    }

    /** A piece comes beside another one that stands beside a hostile square. */
    private static void byHostile(String what, int rules, int hostile, int inward, boolean due) {
        int victim = hostile + inward;
        int goal = victim + inward;
        int start = goal + inward;
        int[] captured = due ? new int[] {victim} : new int[0];
        captures(what + ", a defender", hall(rules, 0, start, 1, victim, 2), start, goal, captured);
        captures(what + ", an attacker", hall(rules, 1, start, 2, victim, 1), start, goal, captured);
        captures(what + ", an attacker by the king", hall(rules, 1, start, 3, victim, 1), start, goal,
                (rules & 2) != 0 ? captured : new int[0]);
    }

    private static void takenCornersDoNot() {
        Document.section(2, "the SQUARE is empty and HOSTILE");
        for (int rules = 0; rules < 16; rules++) {
            captures("a corner with the king", hall(rules, 0, 3, 1, 1, 2, 0, 3), 3, 2);
            captures("the last corner with the king", hall(rules, 0, 33, 1, 41, 2, 48, 3), 33, 34);
            int[] armed = (rules & 2) != 0 ? new int[] {1} : new int[0];
            captures("the king on a corner helps as a king", hall(rules, 1, 3, 2, 1, 1, 0, 3), 3, 2, armed);
        }
    }

    private static void theThroneHelpsByRule() {
        Document.section(2, "or with the RULE 4 the THRONE");
        for (int rules = 0; rules < 16; rules++) {
            for (int way : WAYS) {
                // From three squares off the throne to two would begin at the edge: so it comes from aside.
                int victim = 24 + way;
                int goal = victim + way;
                int start = goal + (Math.abs(way) == 7 ? 1 : 7);
                int[] due = (rules & 4) != 0 ? new int[] {victim} : new int[0];
                captures("a defender, rules " + rules, hall(rules, 0, start, 1, victim, 2), start, goal, due);
                captures("an attacker, rules " + rules, hall(rules, 1, start, 2, victim, 1), start, goal, due);
            }
        }
    }

    private static void aTakenThroneDoesNot() {
        Document.section(2, "the SQUARE is empty and HOSTILE");
        for (int rules = 0; rules < 16; rules++) {
            captures("the king on the throne", hall(rules, 0, 8, 1, 23, 2, 24, 3), 8, 22);
            int[] armed = (rules & 2) != 0 ? new int[] {23} : new int[0];
            captures("he helps as a king", hall(rules, 1, 8, 2, 23, 1, 24, 3), 8, 22, armed);
        }
    }

    private static void otherEmptySquaresDoNot() {
        Document.section(2, "the SQUARE is empty and HOSTILE");
        for (int rules = 0; rules < 16; rules++) {
            inLine("nothing behind a defender", rules, 1, 2, 0, false);
            inLine("nothing behind an attacker", rules, 2, 1, 0, false);
            captures("an edge square is not hostile", hall(rules, 0, 11, 1, 9, 2), 11, 10);
            captures("nor one beside a corner", hall(rules, 0, 4, 1, 2, 2), 4, 3);
        }
    }

    private static void anUnarmedKingCapturesNothing() {
        Document.section(2, "(A KING that is not ARMED captures nothing itself, as it moves.)");
        for (int rules = 0; rules < 16; rules++) {
            inLine("by a defender's help", rules, 3, 1, 2, (rules & 2) != 0);
        }
    }

    private static void aWeakKing() {
        Document.section(2, "An ATTACKER that moved captures a KING beside it: if the KING is not STRONG, likewise");
        for (int rules = 0; rules < 16; rules++) {
            inLine("an attacker behind", rules, 1, 3, 1, (rules & 1) == 0);
            inLine("a defender behind", rules, 1, 3, 2, false);
            inLine("nothing behind", rules, 1, 3, 0, false);
            inLine("defenders capture no king", rules, 2, 3, 2, false);
            int[] due = (rules & 1) == 0 ? new int[] {24} : new int[0];
            captures("on the throne", hall(rules, 0, 9, 1, 24, 3, 25, 1), 9, 23, due);
            captures("at the edge", hall(rules, 0, 10, 1, 3, 3), 10, 17);
            captures("at the edge, with nothing behind", hall(rules, 0, 9, 1, 3, 3), 9, 10);
            captures("on a corner between two", hall(rules, 0, 2, 1, 7, 1, 0, 3), 2, 1);
        }
    }

    private static void aWeakKingByHostileSquares() {
        Document.section(2, "(with a HOSTILE SQUARE, too)");
        for (int rules = 0; rules < 16; rules++) {
            for (int corner : CORNERS) {
                int inward = corner % 7 == 0 ? 1 : -1;
                int victim = corner + inward;
                int[] due = (rules & 1) == 0 ? new int[] {victim} : new int[0];
                captures("by corner " + corner + ", rules " + rules,
                        hall(rules, 0, victim + 2 * inward, 1, victim, 3), victim + 2 * inward, victim + inward, due);
            }
            for (int way : WAYS) {
                int goal = 24 + 2 * way;
                int start = goal + (Math.abs(way) == 7 ? 1 : 7);
                int[] due = (rules & 5) == 4 ? new int[] {24 + way} : new int[0];
                captures("by the throne, rules " + rules, hall(rules, 0, start, 1, 24 + way, 3), start, goal, due);
            }
        }
    }

    /** A king; an attacker that will go beside him; and others. */
    private static TaflHall aroundTheKing(int rules, int king, int start, int... squaresAndPieces) {
        TaflHall hall = hall(rules, 0, squaresAndPieces);
        hall.put(king, 3);
        hall.put(start, 1);
        return hall;
    }

    private static void aStrongKing() {
        Document.section(2, "if it is STRONG, if all four SQUARES beside the KING are there, and each has an ATTACKER");
        for (int rules = 1; rules < 16; rules += 2) {
            for (int way : WAYS) {
                for (int other : WAYS) {
                    if (other != way) {
                        threeBesideTheKing(rules, way, other);
                    }
                }
            }
            captures("on the throne", aroundTheKing(rules, 24, 45, 17, 1, 23, 1, 25, 1), 45, 31, 24);
            captures("three on the throne", aroundTheKing(rules, 24, 45, 17, 1, 23, 1), 45, 31);
            captures("not from afar", aroundTheKing(rules, 16, 44, 9, 1, 15, 1, 17, 1, 23, 1), 44, 43);
        }
    }

    /** The last attacker comes by one way; by another way there is each piece in turn, or none. */
    private static void threeBesideTheKing(int rules, int way, int other) {
        int king = 16;
        for (int piece = 0; piece <= 2; piece++) {
            TaflHall hall = aroundTheKing(rules, king, king + 2 * way);
            for (int side : WAYS) {
                if (side != way) {
                    hall.put(king + side, side == other ? piece : 1);
                }
            }
            captures("piece " + piece + " by way " + other, hall, king + 2 * way, king + way,
                    piece == 1 ? new int[] {king} : new int[0]);
        }
    }

    private static void aStrongKingBesideTheThrone() {
        Document.section(2, "and each has an ATTACKER, or is the THRONE");
        for (int rules = 1; rules < 16; rules += 2) {
            captures("left of it", aroundTheKing(rules, 23, 44, 16, 1, 22, 1), 44, 30, 23);
            captures("right of it", aroundTheKing(rules, 25, 46, 18, 1, 26, 1), 46, 32, 25);
            captures("above it", aroundTheKing(rules, 17, 15, 10, 1, 18, 1), 15, 16, 17);
            captures("below it", aroundTheKing(rules, 31, 29, 38, 1, 32, 1), 29, 30, 31);
            captures("two and the throne", aroundTheKing(rules, 23, 44, 16, 1), 44, 30);
            captures("a defender, two and the throne", aroundTheKing(rules, 23, 44, 16, 1, 22, 2), 44, 30);
        }
    }

    private static void aStrongKingAtTheEdge() {
        Document.section(2, "if all four SQUARES beside the KING are there");
        for (int rules = 1; rules < 16; rules += 2) {
            captures("three at the top", aroundTheKing(rules, 3, 31, 2, 1, 4, 1), 31, 10);
            captures("three at the bottom", aroundTheKing(rules, 45, 10, 44, 1, 46, 1), 10, 38);
            captures("three at the left", aroundTheKing(rules, 21, 26, 14, 1, 28, 1), 26, 22);
            captures("three at the right", aroundTheKing(rules, 27, 22, 20, 1, 34, 1), 22, 26);
            captures("around the edge", aroundTheKing(rules, 21, 26, 14, 1, 28, 1, 20, 1), 26, 22);
            captures("a corner beside him", aroundTheKing(rules, 1, 4, 8, 1), 4, 2);
            captures("on a corner", aroundTheKing(rules, 0, 2, 7, 1), 2, 1);
        }
    }

    private static void allAtOnce() {
        Document.section(2, "All that is captured by one MOVE is captured at once");
        captures("one", hall(0, 0, 44, 1, 9, 2, 2, 1, 15, 2, 17, 2), 44, 16, 9);
        captures("two", hall(0, 0, 44, 1, 9, 2, 2, 1, 15, 2, 14, 1, 17, 2), 44, 16, 9, 15);
        captures("three", hall(0, 0, 44, 1, 9, 2, 2, 1, 15, 2, 14, 1, 17, 2, 18, 1), 44, 16, 9, 15, 17);
        captures("three by a defender", hall(0, 1, 44, 2, 9, 1, 2, 2, 15, 1, 14, 2, 17, 1, 18, 2), 44, 16, 9, 15, 17);
        captures("three by an armed king", hall(2, 1, 44, 3, 9, 1, 2, 2, 15, 1, 14, 2, 17, 1, 18, 2), 44, 16,
                9, 15, 17);
        captures("the king and two", hall(0, 0, 44, 1, 9, 2, 2, 1, 15, 3, 14, 1, 17, 2, 18, 1), 44, 16, 9, 15, 17);
        captures("the king alone of three", hall(0, 0, 44, 1, 9, 2, 15, 3, 14, 1, 17, 2), 44, 16, 15);
        TaflHall strong = hall(1, 0, 20, 1, 23, 3, 22, 1, 30, 1, 9, 2, 2, 1, 15, 2, 14, 1);
        captures("a strong king and two", strong, 20, 16, 9, 15, 23);
    }

    private static void asTheMoveLeftTheBoard() {
        Document.section(2, "captures are looked at as the MOVE left the BOARD");
        // The mover stood behind the piece that it goes beside: it can't help itself from where it was.
        captures("not by the piece that left", hall(0, 0, 9, 1, 16, 2, 23, 1), 9, 10);
        captures("by the piece that came", aroundTheKing(1, 16, 30, 9, 1, 15, 1, 17, 1), 30, 23, 16);
        TaflHall left = hall(4, 1, 24, 3, 23, 2, 8, 1);
        left.move(24, 25, 0);
        captures("the throne that the king left before", left, 8, 22, 23);
        captures("the throne that the king took", taken(), 8, 22);
    }

    private static TaflHall taken() {
        TaflHall hall = hall(4, 1, 25, 3, 23, 2, 8, 1);
        hall.move(25, 24, 0);
        return hall;
    }

    private static void moveReturnsHowMany() {
        Document.promise(6, "Returns how many PIECES it captured (the KING, too).");
        Checks.same("none", Halls.fresh().move(3, 4, 0), 0);
        Checks.same("the king alone", hall(0, 0, 2, 1, 17, 3, 18, 1).move(2, 16, 0), 1);
        Checks.same("the king and a defender", hall(0, 0, 2, 1, 17, 3, 18, 1, 15, 2, 14, 1).move(2, 16, 0), 2);
        Checks.same("the king and two", hall(0, 0, 44, 1, 9, 2, 2, 1, 15, 3, 14, 1, 17, 2, 18, 1).move(44, 16, 0), 3);
    }

    private static void moveRefusesSquares() {
        Document.promise(6, "Throws `IndexOutOfBoundsException` if there is no such SQUARE, of both");
        Checks.same("from the first square", hall(0, 1, 0, 3).move(0, 1, 0), 0);
        Checks.same("to the first square", hall(0, 1, 1, 3).move(1, 0, 0), 0);
        Checks.same("from the last square", hall(0, 1, 48, 3).move(48, 47, 0), 0);
        Checks.same("to the last square", hall(0, 1, 47, 3).move(47, 48, 0), 0);
        for (Checks.Maker maker : Halls.BY_END) {
            Checks.refusesSquare("from -1", maker, hall -> hall.move(-1, 0, 0));
            Checks.refusesSquare("from 49", maker, hall -> hall.move(49, 48, 0));
            Checks.refusesSquare("to -1", maker, hall -> hall.move(0, -1, 0));
            Checks.refusesSquare("to 49", maker, hall -> hall.move(48, 49, 0));
        }
        Checks.refusesSquare("to beyond the last", () -> hall(0, 1, 48, 3), hall -> hall.move(48, 49, 0));
        Checks.refusesSquare("to ahead of the first", () -> hall(0, 1, 0, 3), hall -> hall.move(0, -1, 0));
        for (int square : FAR) {
            Checks.refusesSquare("from " + square, Halls::goingOn, hall -> hall.move(square, 4, 0));
            Checks.refusesSquare("to " + square, Halls::goingOn, hall -> hall.move(4, square, 0));
        }
    }

    private static void moveRefusesQuarters() {
        Document.promise(6, "Throws `IllegalArgumentException` if quarters is not 0 to 4000, "
                + "or section 2 does not let it");
        Checks.same("none", Halls.fresh().move(3, 4, 0), 0);
        Checks.same("the most", Halls.fresh().move(3, 4, 4000), 0);
        Checks.refusesArgument("-1", Halls::fresh, hall -> hall.move(3, 4, -1));
        Checks.refusesArgument("4001", Halls::fresh, hall -> hall.move(3, 4, 4001));
        Checks.refusesArgument("-1 behind moves", Halls::goingOn, hall -> hall.move(4, 5, -1));
        Checks.refusesArgument("4001 behind moves", Halls::goingOn, hall -> hall.move(4, 5, 4001));
        for (int quarters : FAR) {
            Checks.refusesArgument("quarters " + quarters, Halls::goingOn, hall -> hall.move(4, 5, quarters));
        }
        Checks.refusesArgument("section 2", Halls::goingOn, hall -> hall.move(4, 6, 0));
    }

    private static void moveRefusesAnEnd() {
        Document.promise(6, "Throws `IllegalStateException` if END is not 0");
        Checks.refusesState("END 1", Halls::kingSafe, hall -> hall.move(29, 30, 0));
        Checks.refusesState("END 2", Halls::kingCaptured, hall -> hall.move(36, 37, 0));
        Checks.refusesState("END 4", Halls::even, hall -> hall.move(8, 9, 0));
        Checks.refusesState("END 5 by the clock", Halls::lostByClock, hall -> hall.move(17, 18, 0));
        Checks.refusesState("END 5 by giving up", Halls::givenUp, hall -> hall.move(17, 18, 0));
        // With END 3 there is no move that section 2 lets.
        Checks.refusesArgument("END 3", Halls::noMove, hall -> hall.move(16, 17, 0));
    }

    private static void moveNamesTheFirstFault() {
        Document.allPromises("If several exceptions apply, the one that is named first is thrown.");
        Checks.refusesSquare("square and quarters", Halls::fresh, hall -> hall.move(-1, 4, -1));
        Checks.refusesSquare("the second square and quarters", Halls::fresh, hall -> hall.move(3, 49, 4001));
        Checks.refusesSquare("square and section 2", Halls::fresh, hall -> hall.move(0, 49, 0));
        Checks.refusesSquare("square and END", Halls::lostByClock, hall -> hall.move(17, 49, 0));
        Checks.refusesSquare("square, quarters and END", Halls::givenUp, hall -> hall.move(49, 17, -1));
        Checks.refusesArgument("quarters and END", Halls::lostByClock, hall -> hall.move(17, 18, -1));
        Checks.refusesArgument("quarters and END by giving up", Halls::givenUp, hall -> hall.move(17, 18, 4001));
        Checks.refusesArgument("section 2 and END", Halls::kingSafe, hall -> hall.move(29, 37, 0));
        Checks.refusesArgument("the side that moved and END", Halls::kingCaptured, hall -> hall.move(16, 15, 0));
        Checks.refusesArgument("the throne and END", Halls::even, hall -> hall.move(8, 24, 0));
    }

    private static void reachOfAnyPiece() {
        Document.promise(12, "as if its SIDE was to move and END 0; 0 without one.");
        for (int square = 0; square < 49; square++) {
            Checks.same("on the empty board", Halls.empty().reach(square), 0L);
        }
        TaflHall full = Halls.full();
        for (int square = 0; square < 49; square++) {
            Checks.same("on the full board", full.reach(square), 0L);
        }
        for (int piece = 1; piece <= 3; piece++) {
            long all = Halls.alone(0, 8, piece).reach(8);
            Checks.same("over all squares", all, Checks.set(7, 9, 10, 11, 12, 13, 1, 15, 22, 29, 36, 43));
            TaflHall other = Halls.alone(0, 8, piece);
            other.side(piece == 1 ? 1 : 0);
            Checks.same("the other side is to move", other.reach(8), all);
            other.resign();
            Checks.same("with an end", other.reach(8), all);
        }
        Checks.same("the captured king's defender", Halls.kingCaptured().reach(36),
                Checks.set(35, 37, 38, 39, 40, 41, 1, 8, 15, 22, 29, 43));
        Checks.same("with END 3", Halls.noMove().reach(16),
                Checks.set(14, 15, 17, 18, 19, 20, 2, 9, 23, 30, 37, 44));
    }

    private static void reachRefuses() {
        Document.promise(12, "Throws `IndexOutOfBoundsException` if there is no such SQUARE");
        Checks.same("the first", Halls.alone(0, 0, 3).reach(0), Checks.set(1, 2, 3, 4, 5, 6, 7, 14, 21, 28, 35, 42));
        Checks.same("the last", Halls.alone(0, 48, 3).reach(48),
                Checks.set(42, 43, 44, 45, 46, 47, 6, 13, 20, 27, 34, 41));
        for (Checks.Maker maker : Halls.BY_END) {
            Checks.refusesSquare("reach(-1)", maker, hall -> hall.reach(-1));
            Checks.refusesSquare("reach(49)", maker, hall -> hall.reach(49));
        }
        for (int square : FAR) {
            Checks.refusesSquare("reach(" + square + ")", Halls::goingOn, hall -> hall.reach(square));
        }
    }

    private static void takesOfAnyPiece() {
        Document.promise(13, "the set of SQUARES on which the PIECE from there would capture by going there, "
                + "as with reach().");
        for (int side = 0; side <= 1; side++) {
            TaflHall hall = hall(0, side, 2, 1, 17, 3, 18, 1, 15, 2, 14, 1);
            Checks.same("the king, too", hall.takes(2, 16), Checks.set(15, 17));
            Checks.same("nothing", hall.takes(2, 3), 0L);
            hall.resign();
            Checks.same("with an end", hall.takes(2, 16), Checks.set(15, 17));
            Checks.same("nothing is captured by that", hall.of(8), 17);
        }
        Checks.same("with END 1", Halls.kingSafe().takes(29, 30), 0L);
        Checks.same("back to the corner", Halls.kingSafe().takes(0, 6), 0L);
    }

    private static void takesRefusesSquares() {
        Document.promise(13, "Throws `IndexOutOfBoundsException` if there is no such SQUARE, of both");
        Checks.same("from the first", Halls.alone(0, 0, 3).takes(0, 6), 0L);
        Checks.same("to the first", Halls.alone(0, 6, 3).takes(6, 0), 0L);
        Checks.same("from the last", Halls.alone(0, 48, 3).takes(48, 6), 0L);
        Checks.same("to the last", Halls.alone(0, 6, 3).takes(6, 48), 0L);
        for (Checks.Maker maker : Halls.BY_END) {
            Checks.refusesSquare("takes(-1, 3)", maker, hall -> hall.takes(-1, 3));
            Checks.refusesSquare("takes(49, 3)", maker, hall -> hall.takes(49, 3));
            Checks.refusesSquare("takes(3, -1)", maker, hall -> hall.takes(3, -1));
            Checks.refusesSquare("takes(3, 49)", maker, hall -> hall.takes(3, 49));
        }
        for (int square : FAR) {
            Checks.refusesSquare("takes(" + square + ", 3)", Halls::goingOn, hall -> hall.takes(square, 3));
            Checks.refusesSquare("takes(4, " + square + ")", Halls::goingOn, hall -> hall.takes(4, square));
        }
    }

    private static void takesRefusesOthers() {
        Document.promise(13, "Throws `IllegalArgumentException` if reach() does not have it");
        Checks.refusesArgument("nothing there", Halls::fresh, hall -> hall.takes(8, 9));
        Checks.refusesArgument("onto itself", Halls::fresh, hall -> hall.takes(3, 3));
        Checks.refusesArgument("onto a piece", Halls::fresh, hall -> hall.takes(3, 10));
        Checks.refusesArgument("over a piece", Halls::goingOn, hall -> hall.takes(10, 24));
        Checks.refusesArgument("onto a corner", Halls::fresh, hall -> hall.takes(3, 0));
        Checks.refusesArgument("onto the throne", Halls::even, hall -> hall.takes(8, 24));
        Checks.refusesArgument("askew", Halls::givenUp, hall -> hall.takes(4, 12));
        Checks.refusesArgument("on the empty board", Halls::empty, hall -> hall.takes(0, 1));
        Checks.refusesArgument("on the full board", Halls::full, hall -> hall.takes(24, 25));
    }

    private static void takesNamesTheFirstFault() {
        Document.allPromises("If several exceptions apply, the one that is named first is thrown.");
        Checks.refusesSquare("takes(8, 49)", Halls::fresh, hall -> hall.takes(8, 49));
        Checks.refusesSquare("takes(-1, 9)", Halls::fresh, hall -> hall.takes(-1, 9));
        Checks.refusesSquare("takes(49, 49)", Halls::fresh, hall -> hall.takes(49, 49));
    }
}
