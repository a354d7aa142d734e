/** Promises 1 to 5: a new object, begin, clear, put, side. */
public final class SettingTest {

    private static final String FIRST_ROWS = "x..a..x/...a.../...d.../aadKdaa/...d.../...a.../x..a..x/";
    private static final String NO_ROWS = "x.....x/......./......./...x.../......./......./x.....x/";

    public static void main(String[] args) {
        newObject();
        beginAnew();
        beginForgetsGivingUp();
        beginRefuses();
        clearTakesAll();
        clearForgets();
        putSets();
        putForgetsAlsoWithoutChange();
        putAndGivingUp();
        putRefuses();
        putNamesTheFirstFault();
        sideSets();
        sideForgets();
        sideRefuses();
        Checks.finish();
    }

    private static void newObject() {
        TaflHall hall = new TaflHall();
        checkFirstBoard("new", hall, 0);
        Checks.same("new of(14)", hall.of(14), 0);
    }

    private static void checkFirstBoard(String what, TaflHall hall, int rules) {
        Checks.same(what + " rows", Checks.rows(hall), FIRST_ROWS);
        int[] due = {rules, 0, 0, -1, 0, 0, 8, 4, 24, 1, -1, 40, 0, -1};
        for (int number = 0; number < due.length; number++) {
            Checks.same(what + " of(" + number + ")", hall.of(number), due[number]);
        }
        Checks.same(what + " time(0)", hall.time(0), 600.0);
        Checks.same(what + " time(1)", hall.time(1), 600.0);
        Checks.same(what + " last()", hall.last(), "");
        Checks.refusedState(what + " back()", hall, hall::back);
        Checks.refusedState(what + " again()", hall, hall::again);
    }

    private static void beginAnew() {
        TaflHall hall = new TaflHall();
        hall.move(3, 4, 40);
        hall.move(17, 18, 4);
        hall.back();
        Checks.same("begin(15)", hall.begin(15), 0);
        checkFirstBoard("begin(15)", hall, 15);
        for (int rules = 15; rules > 0; rules--) {
            Checks.same("begin(" + (rules - 1) + ")", hall.begin(rules - 1), rules);
            Checks.same("of(0)", hall.of(0), rules - 1);
        }
    }

    private static void beginForgetsGivingUp() {
        TaflHall hall = new TaflHall();
        hall.resign();
        hall.resign();
        hall.begin(2);
        checkFirstBoard("begin(2) behind giving up", hall, 2);
        Checks.same("knocks stay", hall.of(14), 1);
        Checks.same("the game goes on", hall.move(3, 4, 0), 0);
    }

    private static void beginRefuses() {
        TaflHall hall = new TaflHall();
        hall.begin(3);
        hall.move(3, 4, 0);
        hall.move(17, 18, 4);
        hall.back();
        for (int rules : new int[] {-1, 16, Integer.MIN_VALUE, Integer.MAX_VALUE}) {
            Checks.refusedArgument("begin(" + rules + ")", hall, () -> hall.begin(rules));
        }
    }

    private static void clearTakesAll() {
        TaflHall hall = new TaflHall();
        hall.begin(9);
        hall.move(3, 4, 4);
        Checks.same("clear()", hall.clear(), 13);
        Checks.same("rows", Checks.rows(hall), NO_ROWS);
        Checks.same("the side 0 is to move", hall.of(1), 0);
        Checks.same("rules stay", hall.of(0), 9);
        Checks.same("times stay", hall.time(0), 601.5);
        Checks.same("no king", hall.of(8), -1);
        Checks.same("clear() again", hall.clear(), 0);
        hall.put(8, 1);
        hall.put(9, 2);
        Checks.same("clear() of two", hall.clear(), 2);
    }

    private static void clearForgets() {
        TaflHall hall = new TaflHall();
        hall.move(3, 4, 0);
        hall.move(17, 18, 0);
        hall.back();
        hall.resign();
        hall.clear();
        checkForgotten("clear()", hall);
    }

    private static void checkForgotten(String what, TaflHall hall) {
        Checks.same("END behind " + what, hall.of(2), 0);
        Checks.same("no winner behind " + what, hall.of(3), -1);
        Checks.same("of(4) behind " + what, hall.of(4), 0);
        Checks.same("of(5) behind " + what, hall.of(5), 0);
        Checks.same("of(9) behind " + what, hall.of(9), 1);
        Checks.same("of(12) behind " + what, hall.of(12), 0);
        Checks.same("of(13) behind " + what, hall.of(13), -1);
        Checks.same("last() behind " + what, hall.last(), "");
        Checks.refusedState("back() behind " + what, hall, hall::back);
        Checks.refusedState("again() behind " + what, hall, hall::again);
    }

    private static void putSets() {
        TaflHall hall = new TaflHall();
        Checks.same("put on an empty square", hall.put(0, 0), 0);
        Checks.same("put(3, 2)", hall.put(3, 2), 1);
        Checks.same("at(3)", hall.at(3), 2);
        Checks.same("put(3, 1)", hall.put(3, 1), 2);
        Checks.same("at(3)", hall.at(3), 1);
        Checks.same("put(3, 0)", hall.put(3, 0), 1);
        Checks.same("at(3)", hall.at(3), 0);
        Checks.same("the king on his own square", hall.put(24, 3), 3);
        Checks.same("put(24, 0)", hall.put(24, 0), 3);
        Checks.same("no king", hall.of(8), -1);
        Checks.same("the king over a defender", hall.put(23, 3), 2);
        Checks.same("the king is there", hall.of(8), 23);
        Checks.same("three defenders", hall.of(7), 3);
        Checks.same("an attacker over the king", hall.put(23, 1), 3);
        Checks.same("no king any more", hall.of(8), -1);
        Checks.same("the king on a corner", hall.put(48, 3), 0);
        Checks.same("row(6)", hall.row(6), "x..a..K");
        Checks.same("the side to move stays", hall.of(1), 0);
        hall.side(1);
        hall.put(8, 2);
        Checks.same("the other side to move stays", hall.of(1), 1);
    }

    private static void putForgetsAlsoWithoutChange() {
        TaflHall hall = new TaflHall();
        hall.move(3, 4, 4);
        hall.move(17, 18, 8);
        hall.back();
        hall.put(1, 0);
        checkForgotten("put(1, 0)", hall);
        Checks.same("times stay", hall.time(0), 601.5);
        Checks.same("the side 1 is to move", hall.of(1), 1);
        hall.move(17, 18, 20);
        hall.put(1, 0);
        Checks.same("the other's, too", hall.time(1), 597.5);
        hall.side(1);
        Checks.same("behind side()", hall.time(1), 597.5);
        hall.clear();
        Checks.same("behind clear()", hall.time(1), 597.5);
    }

    private static void putAndGivingUp() {
        TaflHall hall = new TaflHall();
        hall.resign();
        hall.put(1, 0);
        checkForgotten("put behind giving up", hall);
        TaflHall late = new TaflHall();
        late.move(3, 4, 4000);
        late.put(1, 0);
        checkForgotten("put behind a lost clock", late);
        Checks.same("the time stays", late.time(0), -400.0);
        late.side(0);
        Checks.same("a move with no time left", late.move(10, 9, 0), 0);
        Checks.same("is lost again", late.of(2), 5);
        Checks.same("for the side 0", late.of(3), 1);
        Checks.same("its time", late.time(0), -400.0);
    }

    private static void putRefuses() {
        TaflHall hall = new TaflHall();
        hall.move(3, 4, 0);
        hall.move(17, 18, 0);
        hall.back();
        for (int square : new int[] {-1, 49, Integer.MIN_VALUE, Integer.MAX_VALUE}) {
            Checks.refusedSquare("put(" + square + ", 1)", hall, () -> hall.put(square, 1));
        }
        for (int piece : new int[] {-1, 4, Integer.MIN_VALUE, Integer.MAX_VALUE}) {
            Checks.refusedArgument("put(8, " + piece + ")", hall, () -> hall.put(8, piece));
        }
        for (int square : new int[] {0, 6, 24, 42, 48}) {
            Checks.refusedArgument("put(" + square + ", 1)", hall, () -> hall.put(square, 1));
            Checks.refusedArgument("put(" + square + ", 2)", hall, () -> hall.put(square, 2));
        }
        Checks.refusedState("put(25, 3)", hall, () -> hall.put(25, 3));
        Checks.refusedState("put(0, 3)", hall, () -> hall.put(0, 3));
    }

    private static void putNamesTheFirstFault() {
        TaflHall hall = new TaflHall();
        Checks.refusedSquare("put(49, 4)", hall, () -> hall.put(49, 4));
        Checks.refusedSquare("put(-1, 3)", hall, () -> hall.put(-1, 3));
        Checks.refusedArgument("put(0, 4)", hall, () -> hall.put(0, 4));
    }

    private static void sideSets() {
        TaflHall hall = new TaflHall();
        Checks.same("side(1)", hall.side(1), 0);
        Checks.same("of(1)", hall.of(1), 1);
        Checks.same("side(1) again", hall.side(1), 1);
        Checks.same("side(0)", hall.side(0), 1);
        Checks.same("of(1)", hall.of(1), 0);
        Checks.same("the board stays", Checks.rows(hall), FIRST_ROWS);
    }

    private static void sideForgets() {
        TaflHall hall = new TaflHall();
        hall.move(3, 4, 12);
        hall.move(17, 18, 0);
        hall.back();
        hall.side(1);
        checkForgotten("side(1)", hall);
        Checks.same("times stay", hall.time(0), 599.5);
        hall.resign();
        hall.side(1);
        checkForgotten("side(1) behind giving up", hall);
    }

    private static void sideRefuses() {
        TaflHall hall = new TaflHall();
        hall.move(3, 4, 0);
        hall.back();
        for (int side : new int[] {-1, 2, Integer.MIN_VALUE, Integer.MAX_VALUE}) {
            Checks.refusedArgument("side(" + side + ")", hall, () -> hall.side(side));
        }
    }
}
