import java.math.BigInteger;

/** Promises 10, 11 and 14 to 19: at, row, of, key, time, lead, last, worth. */
public final class AskingTest {

    private static final String NONE = ".......";

    public static void main(String[] args) {
        atTellsPieces();
        rowTellsSigns();
        ofTellsNumbers();
        ofRefuses();
        ofTellsSteps();
        ofTellsAllMoves();
        ofTellsCaptures();
        keyOfBoards();
        timeRefuses();
        leadIsRounded();
        leadIsBounded();
        lastMove();
        worthOfBoards();
        Checks.finish();
    }

    private static void atTellsPieces() {
        TaflHall hall = new TaflHall();
        Checks.same("at(3)", hall.at(3), 1);
        Checks.same("at(17)", hall.at(17), 2);
        Checks.same("at(24)", hall.at(24), 3);
        Checks.same("at(0)", hall.at(0), 0);
        Checks.same("at(48)", hall.at(48), 0);
        for (int square : new int[] {-1, 49, Integer.MIN_VALUE, Integer.MAX_VALUE}) {
            Checks.refusedSquare("at(" + square + ")", hall, () -> hall.at(square));
        }
    }

    private static void rowTellsSigns() {
        TaflHall hall = Checks.hall(0, 0, ".......", "ad.....", NONE, NONE, NONE, NONE, "......K");
        Checks.same("row(0)", hall.row(0), "x.....x");
        Checks.same("row(1)", hall.row(1), "ad.....");
        Checks.same("row(3)", hall.row(3), "...x...");
        Checks.same("row(6)", hall.row(6), "x.....K");
        TaflHall first = new TaflHall();
        Checks.same("the king on the throne", first.row(3), "aadKdaa");
        for (int row : new int[] {-1, 7, Integer.MIN_VALUE, Integer.MAX_VALUE}) {
            Checks.refusedSquare("row(" + row + ")", hall, () -> hall.row(row));
        }
    }

    private static void numbers(String what, TaflHall hall, int... due) {
        for (int number = 0; number < due.length; number++) {
            Checks.same(what + ": of(" + number + ")", hall.of(number), due[number]);
        }
    }

    private static void ofTellsNumbers() {
        TaflHall hall = Checks.hall(6, 0, "..a....", NONE, "...da..", NONE, "....d..", NONE, ".K.....");
        numbers("set", hall, 6, 0, 0, -1, 0, 0, 2, 2, 43, 1, 1, 15, 0, -1, 0);
        hall.move(2, 16, 4);
        numbers("a move", hall, 6, 1, 0, -1, 1, 0, 2, 1, 43, 1, 1, 21, 1, 216, 0);
        hall.move(43, 42, 0);
        numbers("home", hall, 6, 0, 1, 1, 2, 0, 2, 1, 42, 1, 0, 15, 1, 4342, 0);
        hall.resign();
        hall.back();
        numbers("back", hall, 6, 1, 0, -1, 1, 1, 2, 1, 43, 1, 1, 21, 1, 216, 1);
    }

    private static void ofRefuses() {
        TaflHall hall = new TaflHall();
        for (int what : new int[] {-1, 15, Integer.MIN_VALUE, Integer.MAX_VALUE}) {
            Checks.refusedArgument("of(" + what + ")", hall, () -> hall.of(what));
        }
    }

    private static void steps(int due, int rules, String... rows) {
        Checks.same("steps by rules " + rules, Checks.hall(rules, 0, rows).of(10), due);
    }

    private static void ofTellsSteps() {
        String[] alone = {NONE, NONE, NONE, "...K...", NONE, NONE, NONE};
        steps(2, 0, alone);
        steps(1, 8, alone);
        steps(-1, 0, NONE, NONE, NONE, "..a.d..", NONE, NONE, NONE);
        steps(0, 0, "......K", NONE, NONE, NONE, NONE, NONE, NONE);
        steps(1, 0, "...K...", NONE, NONE, NONE, NONE, NONE, NONE);
        steps(0, 8, "...K...", NONE, NONE, NONE, NONE, NONE, NONE);
        steps(-1, 8, NONE, NONE, "...a...", "..dKd..", "...a...", NONE, NONE);
        String[] winding = {".a.....", "aK..d..", ".d.....", NONE, NONE, NONE, NONE};
        steps(3, 0, winding);
        steps(2, 8, winding);
        steps(2, 0, NONE, NONE, "..a....", ".aK....", "..d....", NONE, NONE);
        steps(3, 0, NONE, NONE, "..a....", ".aK.d..", "..d....", NONE, NONE);
        steps(2, 7, NONE, ".K.....", NONE, NONE, NONE, NONE, NONE);
    }

    private static void ofTellsAllMoves() {
        TaflHall hall = Checks.hall(0, 0, NONE, ".a.....", NONE, NONE, NONE, NONE, "...K...");
        Checks.same("attackers", hall.of(11), 12);
        hall.side(1);
        Checks.same("the king", hall.of(11), 12);
        hall.resign();
        Checks.same("with an end", hall.of(11), 12);
        hall.clear();
        Checks.same("nobody", hall.of(11), 0);
    }

    private static void ofTellsCaptures() {
        TaflHall hall = Checks.hall(0, 0, "..a....", NONE, "ad.da..", NONE, "....d..", "a......", NONE);
        hall.move(2, 16, 0);
        Checks.same("two", hall.of(12), 2);
        hall.move(32, 39, 0);
        hall.move(35, 38, 0);
        Checks.same("still two", hall.of(12), 2);
        hall.back();
        hall.back();
        Checks.same("two", hall.of(12), 2);
        hall.back();
        Checks.same("none", hall.of(12), 0);
        hall.again();
        Checks.same("two again", hall.of(12), 2);
    }

    private static long five(int power) {
        return BigInteger.valueOf(5).pow(power).longValue();
    }

    private static void keyOfBoards() {
        Checks.same("as it begins", new TaflHall().key(), -5087231572088153864L);
        TaflHall hall = new TaflHall();
        hall.clear();
        Checks.same("empty", hall.key(), five(50));
        hall.side(1);
        Checks.same("the side 1", hall.key(), five(50) + 1);
        hall.put(48, 3);
        Checks.same("the last square", hall.key(), five(50) + 16);
        hall.put(1, 2);
        Checks.same("the second square", hall.key(), five(50) + 2 * five(48) + 16);
        hall.put(40, 1);
        Checks.same("another one", hall.key(), five(50) + 2 * five(48) + five(9) + 16);
    }

    private static void timeRefuses() {
        TaflHall hall = new TaflHall();
        for (int side : new int[] {-1, 2, Integer.MIN_VALUE, Integer.MAX_VALUE}) {
            Checks.refusedArgument("time(" + side + ")", hall, () -> hall.time(side));
        }
    }

    /** The side 1 is ahead by a quarter for each quarter of the side 0, less 2.5. */
    private static void leadBehindOne(int quarters, double due) {
        TaflHall hall = new TaflHall();
        hall.move(3, 4, quarters);
        Checks.same("lead() behind " + quarters, hall.lead(), due);
    }

    /** The side 1 is behind by a quarter for each quarter of its own. */
    private static void leadBehindTwo(int quarters, double due) {
        TaflHall hall = new TaflHall();
        hall.move(3, 4, 0);
        hall.move(17, 18, quarters);
        Checks.same("lead() behind 0 and " + quarters, hall.lead(), due);
    }

    private static void leadIsRounded() {
        Checks.same("lead()", new TaflHall().lead(), 0.0);
        double[] due = {-2, -2, -2, -2, -2, -1, -1, -1, 0, 0, 0, 0, 0, 1, 1, 1, 2, 2, 2, 2, 2, 3, 3, 3, 4};
        for (int quarters = 0; quarters < due.length; quarters++) {
            leadBehindOne(quarters, due[quarters]);
        }
    }

    private static void leadIsBounded() {
        leadBehindOne(245, 59.0);
        leadBehindOne(247, 59.0);
        leadBehindOne(248, 60.0);
        leadBehindOne(250, 60.0);
        leadBehindOne(251, 60.0);
        leadBehindOne(252, 60.0);
        leadBehindOne(253, 60.0);
        leadBehindOne(4000, 60.0);
        leadBehindTwo(1, 0.0);
        leadBehindTwo(2, 0.0);
        leadBehindTwo(3, -1.0);
        leadBehindTwo(6, -2.0);
        leadBehindTwo(237, -59.0);
        leadBehindTwo(238, -60.0);
        leadBehindTwo(240, -60.0);
        leadBehindTwo(241, -60.0);
        leadBehindTwo(243, -60.0);
        leadBehindTwo(4000, -60.0);
    }

    private static void lastMove() {
        TaflHall hall = Checks.hall(0, 0, "..a....", NONE, "...da..", NONE, "....d..", NONE, NONE);
        Checks.same("none", hall.last(), "");
        hall.move(2, 16, 0);
        Checks.same("a capture", hall.last(), "2-16x1");
        hall.move(32, 33, 0);
        Checks.same("no capture", hall.last(), "32-33");
        hall.back();
        Checks.same("back at the capture", hall.last(), "2-16x1");
        hall.back();
        Checks.same("none", hall.last(), "");
    }

    private static void worth(double due, int rules, String... rows) {
        Checks.same("worth() by rules " + rules, Checks.hall(rules, 0, rows).worth(), due);
    }

    private static void worthOfBoards() {
        Checks.same("as it begins", new TaflHall().worth(), -1.0);
        String[] alone = {NONE, NONE, NONE, "...K...", NONE, NONE, NONE};
        worth(1.25, 0, alone);
        worth(1.375, 8, alone);
        worth(2.0, 0, NONE, ".d...d.", NONE, "...K...", NONE, ".a.....", NONE);
        worth(1.0 - 0.75 - 1.0, 0, NONE, ".d.....", "...a...", "..dKa..", "...a...", NONE, NONE);
        worth(-32.0, 0, NONE, ".d...d.", NONE, NONE, NONE, NONE, NONE);
        worth(-32.0, 0, NONE, NONE, NONE, NONE, NONE, NONE, NONE);
        worth(32.0, 0, "K......", ".a.a.a.", NONE, NONE, NONE, NONE, NONE);
        worth(32.0, 8, NONE, "K......", NONE, NONE, NONE, NONE, NONE);
        worth(1.5 - 0.125, 0, "...K...", NONE, NONE, NONE, NONE, NONE, NONE);
        TaflHall other = Checks.hall(0, 1, alone);
        Checks.same("for the side 1, whoever is to move", other.worth(), 1.25);
    }
}
