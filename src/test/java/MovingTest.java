/** Promises 6, 12 and 13: where pieces go and what they capture (section 2). */
public final class MovingTest {

    private static final String NONE = ".......";

    public static void main(String[] args) {
        whereCommonPiecesGo();
        whereTheKingGoes();
        reachOfBothSides();
        moveRefuses();
        moveNamesTheFirstFault();
        captureInEachDirection();
        captureOfThreeAtOnce();
        noCaptureBesideTheEdge();
        noCaptureOfOneselfOrOwn();
        cornersHelp();
        theThroneHelpsByRule();
        theArmedKing();
        theWeakKing();
        theStrongKing();
        theKingAndADefenderAtOnce();
        takesRefuses();
        takesAndReachWithAnEnd();
        Checks.finish();
    }

    private static TaflHall hall(int rules, int side, String... rows) {
        return Checks.hall(rules, side, rows);
    }

    /** What takes() tells is what the move does, and pieces that are not told stay. */
    private static void captures(String what, TaflHall hall, int from, int to, int... due) {
        Checks.same(what + ": takes", hall.takes(from, to), Checks.set(due));
        int before = hall.of(6) + hall.of(7) + (hall.of(8) == -1 ? 0 : 1);
        int piece = hall.at(from);
        Checks.same(what + ": move", hall.move(from, to, 0), due.length);
        Checks.same(what + ": the piece left", hall.at(from), 0);
        Checks.same(what + ": the piece came", hall.at(to), piece);
        for (int square : due) {
            Checks.same(what + ": captured on " + square, hall.at(square), 0);
        }
        int after = hall.of(6) + hall.of(7) + (hall.of(8) == -1 ? 0 : 1);
        Checks.same(what + ": pieces left", after, before - due.length);
        Checks.same(what + ": of(12)", hall.of(12), due.length);
    }

    private static void whereCommonPiecesGo() {
        TaflHall hall = hall(0, 0, NONE, NONE, NONE, ".a...d.", NONE, NONE, "..a....");
        Checks.same("over the throne, not on it", hall.reach(22), Checks.set(21, 23, 25, 1, 8, 15, 29, 36, 43));
        Checks.same("a defender, too", hall.reach(26), Checks.set(23, 25, 27, 5, 12, 19, 33, 40, 47));
        Checks.same("not to a corner", hall.reach(44), Checks.set(43, 45, 46, 47, 2, 9, 16, 23, 30, 37));
        Checks.same("nothing there", hall.reach(24), 0L);
        Checks.same("over the throne", hall.move(22, 25, 0), 0);
        TaflHall onto = hall(0, 0, NONE, NONE, NONE, ".a...d.", NONE, NONE, NONE);
        Checks.refusedArgument("onto the throne", onto, () -> onto.move(22, 24, 0));
    }

    private static void whereTheKingGoes() {
        TaflHall hall = hall(0, 1, "...K...", NONE, NONE, NONE, NONE, NONE, NONE);
        Checks.same("the king goes to corners and the throne", hall.reach(3),
                Checks.set(0, 1, 2, 4, 5, 6, 10, 17, 24, 31, 38, 45));
        Checks.same("onto the throne", hall.move(3, 24, 0), 0);
        TaflHall blocked = hall(0, 1, "..dKa..", "...a...", NONE, NONE, NONE, NONE, NONE);
        Checks.same("no way", blocked.reach(3), 0L);
    }

    private static void reachOfBothSides() {
        TaflHall hall = new TaflHall();
        Checks.same("of the side that is not to move", hall.reach(17), Checks.set(14, 15, 16, 18, 19, 20));
        Checks.same("of the side to move", hall.reach(3), Checks.set(1, 2, 4, 5));
        for (int square : new int[] {-1, 49, Integer.MIN_VALUE, Integer.MAX_VALUE}) {
            Checks.refusedSquare("reach(" + square + ")", hall, () -> hall.reach(square));
        }
    }

    private static void moveRefuses() {
        TaflHall hall = new TaflHall();
        hall.move(3, 4, 0);
        hall.back();
        for (int square : new int[] {-1, 49, Integer.MIN_VALUE, Integer.MAX_VALUE}) {
            Checks.refusedSquare("move from " + square, hall, () -> hall.move(square, 4, 0));
            Checks.refusedSquare("move to " + square, hall, () -> hall.move(3, square, 0));
        }
        for (int quarters : new int[] {-1, 4001, Integer.MIN_VALUE, Integer.MAX_VALUE}) {
            Checks.refusedArgument("move in " + quarters, hall, () -> hall.move(3, 4, quarters));
        }
        Checks.refusedArgument("move of nothing", hall, () -> hall.move(0, 1, 0));
        Checks.refusedArgument("move of the other side", hall, () -> hall.move(17, 16, 0));
        Checks.refusedArgument("no step", hall, () -> hall.move(3, 3, 0));
        Checks.refusedArgument("onto a piece", hall, () -> hall.move(3, 10, 0));
        TaflHall wall = hall(0, 0, ".a.d.a.", NONE, NONE, NONE, NONE, NONE, NONE);
        Checks.refusedArgument("through the other side", wall, () -> wall.move(1, 4, 0));
        wall.put(3, 1);
        Checks.refusedArgument("through one's own", wall, () -> wall.move(1, 4, 0));
        Checks.refusedArgument("askew", hall, () -> hall.move(3, 11, 0));
        Checks.refusedArgument("onto a corner", hall, () -> hall.move(3, 0, 0));
        Checks.refusedArgument("around the edge", hall, () -> hall.move(27, 28, 0));
        hall.resign();
        Checks.refusedState("move behind the end", hall, () -> hall.move(3, 4, 0));
    }

    private static void moveNamesTheFirstFault() {
        TaflHall hall = new TaflHall();
        Checks.refusedSquare("move(3, 49, -1)", hall, () -> hall.move(3, 49, -1));
        Checks.refusedSquare("move(-1, 4, 4001)", hall, () -> hall.move(-1, 4, 4001));
        hall.resign();
        Checks.refusedSquare("move(49, 4, 0) with an end", hall, () -> hall.move(49, 4, 0));
        Checks.refusedArgument("move(3, 4, -1) with an end", hall, () -> hall.move(3, 4, -1));
        Checks.refusedArgument("move(3, 0, 0) with an end", hall, () -> hall.move(3, 0, 0));
        Checks.refusedState("move(3, 4, 0) with an end", hall, () -> hall.move(3, 4, 0));
    }

    private static void captureInEachDirection() {
        captures("up", hall(0, 0, "..a....", "..d....", "......a", NONE, NONE, NONE, NONE), 20, 16, 9);
        captures("left", hall(0, 0, "..a....", NONE, "ad.....", NONE, NONE, NONE, NONE), 2, 16, 15);
        captures("right", hall(0, 0, "..a....", NONE, "...da..", NONE, NONE, NONE, NONE), 2, 16, 17);
        captures("down", hall(0, 0, NONE, NONE, "......a", "..d....", "..a....", NONE, NONE), 20, 16, 23);
        captures("by defenders", hall(0, 1, "..d....", NONE, "...ad..", NONE, NONE, NONE, NONE), 2, 16, 17);
        captures("without help", hall(0, 0, "..a....", NONE, "...d...", NONE, NONE, NONE, NONE), 2, 16);
        captures("not with a gap", hall(0, 0, "..a....", NONE, "...d.a.", NONE, NONE, NONE, NONE), 2, 16);
        captures("not two in a row", hall(0, 0, "..a....", NONE, "...dda.", NONE, NONE, NONE, NONE), 2, 16);
    }

    private static void captureOfThreeAtOnce() {
        TaflHall hall = hall(0, 0, "..a....", "..d....", "ad.da..", NONE, NONE, NONE, "..a....");
        captures("three at once", hall, 44, 16, 9, 15, 17);
        Checks.same("last()", hall.last(), "44-16x3");
        captures("three by a defender", hall(0, 1, "..d....", "..a....", "da.ad..", NONE, NONE, NONE, "..d...."),
                44, 16, 9, 15, 17);
    }

    private static void noCaptureBesideTheEdge() {
        captures("nothing behind the top", hall(0, 0, "...d...", "a......", NONE, NONE, NONE, NONE, NONE), 7, 10);
        captures("nothing behind the bottom", hall(0, 0, NONE, NONE, NONE, NONE, NONE, "a......", "...d..."), 35, 38);
        captures("not around the right edge",
                hall(0, 0, ".....a.", "......d", "a......", NONE, NONE, NONE, NONE), 5, 12);
        captures("not around the left edge",
                hall(0, 0, NONE, "......a", "d......", NONE, ".a.....", NONE, NONE), 29, 15);
    }

    private static void noCaptureOfOneselfOrOwn() {
        captures("going between two", hall(0, 0, "..a....", NONE, ".d.d...", NONE, NONE, NONE, NONE), 2, 16);
        captures("own pieces", hall(0, 0, "..a....", NONE, "...aa..", NONE, NONE, NONE, NONE), 2, 16);
        captures("other helpers", hall(0, 0, "..a....", NONE, "...dd..", NONE, NONE, NONE, NONE), 2, 16);
        captures("the king between two", hall(2, 1, NONE, NONE, ".a.a...", NONE, NONE, NONE, "..K...."), 44, 16);
    }

    private static void cornersHelp() {
        captures("a corner for attackers", hall(0, 0, ".d.....", NONE, "..a....", NONE, NONE, NONE, NONE), 16, 2, 1);
        captures("a corner for defenders", hall(0, 1, ".....a.", NONE, "....d..", NONE, NONE, NONE, NONE), 18, 4, 5);
        captures("a corner below", hall(0, 0, NONE, NONE, NONE, NONE, ".a.....", "d......", NONE), 29, 28, 35);
        captures("the last corner", hall(0, 0, NONE, NONE, NONE, NONE, ".....a.", "......d", NONE), 33, 34, 41);
        captures("not with the king on it", hall(0, 0, "Kd.....", NONE, "..a....", NONE, NONE, NONE, NONE), 16, 2);
        captures("not by an unarmed king on it", hall(0, 1, "Ka.....", NONE, "..d....", NONE, NONE, NONE, NONE), 16, 2);
        captures("but by an armed one", hall(2, 1, "Ka.....", NONE, "..d....", NONE, NONE, NONE, NONE), 16, 2, 1);
    }

    private static void theThroneHelpsByRule() {
        String[] defender = {NONE, ".a.....", NONE, "..d....", NONE, NONE, NONE};
        captures("the throne is hostile", hall(4, 0, defender), 8, 22, 23);
        captures("the throne is not", hall(11, 0, defender), 8, 22);
        String[] attacker = {NONE, ".d.....", NONE, "..a....", NONE, NONE, NONE};
        captures("to attackers, too", hall(4, 1, attacker), 8, 22, 23);
        captures("not to attackers without the rule", hall(11, 1, attacker), 8, 22);
        String[] king = {NONE, ".a.....", NONE, "..dK...", NONE, NONE, NONE};
        captures("not with the king on it", hall(4, 0, king), 8, 22);
        String[] behind = {NONE, ".d.....", NONE, "..aK...", NONE, NONE, NONE};
        captures("the unarmed king on it", hall(4, 1, behind), 8, 22);
        captures("the armed king on it", hall(2, 1, behind), 8, 22, 23);
    }

    private static void theArmedKing() {
        String[] moves = {"..K....", NONE, "...ad..", NONE, NONE, NONE, NONE};
        captures("a king that is not armed captures nothing", hall(13, 1, moves), 2, 16);
        captures("an armed one does", hall(2, 1, moves), 2, 16, 17);
        String[] helps = {"..d....", NONE, "...aK..", NONE, NONE, NONE, NONE};
        captures("a king that is not armed helps nobody", hall(13, 1, helps), 2, 16);
        captures("an armed one helps", hall(2, 1, helps), 2, 16, 17);
        captures("the armed king at a corner",
                hall(2, 1, ".a.....", NONE, "..K....", NONE, NONE, NONE, NONE), 16, 2, 1);
        captures("the king at a corner", hall(0, 1, ".a.....", NONE, "..K....", NONE, NONE, NONE, NONE), 16, 2);
    }

    private static void theWeakKing() {
        String[] two = {"..a....", NONE, "...Ka..", NONE, NONE, NONE, NONE};
        captures("two capture a king", hall(0, 0, two), 2, 16, 17);
        captures("two do not capture a strong one", hall(1, 0, two), 2, 16);
        captures("also an armed king", hall(2, 0, two), 2, 16, 17);
        captures("one does not", hall(0, 0, "..a....", NONE, "...K...", NONE, NONE, NONE, NONE), 2, 16);
        captures("nor with a defender", hall(0, 0, "..a....", NONE, "...Kd..", NONE, NONE, NONE, NONE), 2, 16);
        captures("on the throne", hall(0, 0, NONE, "..a....", NONE, "...Ka..", NONE, NONE, NONE), 9, 23, 24);
        captures("by a corner", hall(0, 0, ".K.....", NONE, "..a....", NONE, NONE, NONE, NONE), 16, 2, 1);
        String[] throne = {NONE, ".a.....", NONE, "..K....", NONE, NONE, NONE};
        captures("by the throne", hall(4, 0, throne), 8, 22, 23);
        captures("not by the throne without the rule", hall(0, 0, throne), 8, 22);
        captures("not at the edge", hall(0, 0, "...K...", "a......", NONE, NONE, NONE, NONE, NONE), 7, 10);
        captures("defenders do not", hall(0, 1, "..d....", NONE, "...Kd..", NONE, NONE, NONE, NONE), 2, 16);
    }

    private static void theStrongKing() {
        captures("four", hall(1, 0, NONE, "..a....", ".aKa...", NONE, NONE, NONE, "..a...."), 44, 23, 16);
        captures("three", hall(1, 0, NONE, "..a....", ".aK....", NONE, NONE, NONE, "..a...."), 44, 23);
        captures("a defender among them", hall(1, 0, NONE, "..a....", ".aKd...", NONE, NONE, NONE, "..a...."), 44, 23);
        captures("on the throne", hall(1, 0, NONE, NONE, "...a...", "..aKa..", NONE, NONE, "...a..."), 45, 31, 24);
        captures("beside the throne", hall(1, 0, NONE, NONE, "..a....", ".aK....", NONE, NONE, "..a...."), 44, 30, 23);
        captures("hostile or not", hall(5, 0, NONE, NONE, "..a....", ".aK....", NONE, NONE, "..a...."), 44, 30, 23);
        captures("two beside the throne", hall(5, 0, NONE, NONE, NONE, "..K....", NONE, NONE, ".a....."), 43, 22);
        captures("at the edge", hall(1, 0, "..aKa..", NONE, "a......", NONE, NONE, NONE, NONE), 14, 17);
        captures("at the edge with three", hall(1, 0, "..aKa..", "a......", NONE, NONE, NONE, NONE, NONE), 7, 10);
        captures("by the corner", hall(1, 0, ".K.....", NONE, "..a....", NONE, NONE, NONE, NONE), 16, 2);
        captures("not from afar", hall(1, 0, NONE, "..a....", ".aKa...", "..a....", NONE, NONE, "..a...."), 44, 43);
    }

    private static void theKingAndADefenderAtOnce() {
        TaflHall hall = hall(0, 0, "..a....", NONE, "ad.Ka..", NONE, NONE, NONE, NONE);
        captures("the king and a defender", hall, 2, 16, 15, 17);
        Checks.same("END", hall.of(2), 2);
        TaflHall both = hall(1, 0, "..a....", ".aKa...", "......a", "..d....", "..a....", NONE, NONE);
        captures("a strong king and a defender", both, 20, 16, 23, 9);
    }

    private static void takesRefuses() {
        TaflHall hall = new TaflHall();
        for (int square : new int[] {-1, 49, Integer.MIN_VALUE, Integer.MAX_VALUE}) {
            Checks.refusedSquare("takes from " + square, hall, () -> hall.takes(square, 4));
            Checks.refusedSquare("takes to " + square, hall, () -> hall.takes(3, square));
        }
        Checks.refusedSquare("takes of nothing to nowhere", hall, () -> hall.takes(0, 49));
        Checks.refusedArgument("takes of nothing", hall, () -> hall.takes(0, 1));
        Checks.refusedArgument("takes onto a corner", hall, () -> hall.takes(3, 0));
        Checks.refusedArgument("takes onto itself", hall, () -> hall.takes(3, 3));
    }

    private static void takesAndReachWithAnEnd() {
        TaflHall hall = hall(0, 1, "..a....", NONE, "...da..", NONE, NONE, NONE, NONE);
        Checks.same("of the side that is not to move", hall.takes(2, 16), Checks.set(17));
        hall.resign();
        Checks.same("with an end", hall.takes(2, 16), Checks.set(17));
        Checks.same("reach with an end", hall.reach(17), Checks.set(14, 15, 16, 3, 10, 31, 38, 45));
        Checks.same("nothing is changed", hall.at(17), 2);
    }
}
