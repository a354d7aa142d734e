/** Promises 6 to 9: how games end, clocks, back, again, resign (section 3). */
public final class GameTest {

    private static final String NONE = ".......";

    public static void main(String[] args) {
        theKingComesHome();
        theKingWasSetThere();
        theKingIsCaptured();
        nobodyCanMove();
        theThirdTime();
        theThirdTimeIsCountedAnew();
        clocks();
        clocksGoFirst();
        theOrderOfEnds();
        backAndAgain();
        backFromAnEnd();
        backAndClocks();
        aMoveForgetsWhatWasTakenBack();
        givingUp();
        givingUpKeepsCounts();
        knocks();
        Checks.finish();
    }

    private static void ended(String what, TaflHall hall, int end, int winner) {
        Checks.same(what + ": END", hall.of(2), end);
        Checks.same(what + ": the side that won", hall.of(3), winner);
    }

    private static void theKingComesHome() {
        String[] rows = {"...K...", NONE, NONE, NONE, ".a.....", NONE, NONE};
        for (int rules = 0; rules < 16; rules++) {
            for (int corner : new int[] {0, 6}) {
                TaflHall hall = Checks.hall(rules, 1, rows);
                hall.move(3, corner, 0);
                ended("to a corner", hall, 1, 1);
                Checks.same("the other side is to move", hall.of(1), 0);
            }
            TaflHall edge = Checks.hall(rules, 1, rows);
            edge.move(3, 45, 0);
            ended("to the edge", edge, rules >= 8 ? 1 : 0, rules >= 8 ? 1 : -1);
            TaflHall inside = Checks.hall(rules, 1, rows);
            inside.move(3, 10, 0);
            ended("inside", inside, 0, -1);
        }
    }

    private static void theKingWasSetThere() {
        TaflHall corner = Checks.hall(0, 1, "K......", ".......", ".d.....", NONE, ".a.....", NONE, NONE);
        ended("set on a corner", corner, 0, -1);
        corner.move(15, 16, 0);
        ended("another one moves", corner, 0, -1);
        corner.move(29, 30, 0);
        corner.move(0, 1, 0);
        ended("off the corner", corner, 0, -1);
        corner.move(30, 31, 0);
        corner.move(1, 0, 0);
        ended("and back to it", corner, 1, 1);
        TaflHall edge = Checks.hall(8, 1, "...K...", NONE, NONE, NONE, ".a.....", NONE, NONE);
        edge.move(3, 4, 0);
        ended("along the edge", edge, 1, 1);
        TaflHall others = Checks.hall(8, 1, NONE, ".d.....", NONE, "...K...", ".a.....", NONE, NONE);
        others.move(8, 1, 0);
        ended("a defender at the edge", others, 0, -1);
        others.move(29, 28, 0);
        ended("an attacker at the edge", others, 0, -1);
    }

    private static void theKingIsCaptured() {
        TaflHall hall = Checks.hall(0, 0, "..a....", NONE, "...Ka..", NONE, NONE, ".d.....", NONE);
        Checks.same("move", hall.move(2, 16, 0), 1);
        ended("captured", hall, 2, 0);
        Checks.same("the other side is to move", hall.of(1), 1);
        Checks.same("it could", hall.of(11), 12);
        Checks.refusedState("but may not", hall, () -> hall.move(36, 37, 0));
    }

    private static void nobodyCanMove() {
        TaflHall attackers = Checks.hall(0, 1, ".ad....", NONE, ".d.....", NONE, NONE, NONE, NONE);
        attackers.move(15, 8, 0);
        ended("attackers that cannot move", attackers, 3, 1);
        Checks.same("no move", attackers.of(11), 0);
        TaflHall none = Checks.hall(0, 0, NONE, NONE, ".a.....", NONE, NONE, NONE, NONE);
        ended("set without the other side", none, 0, -1);
        none.move(15, 16, 0);
        ended("no defenders", none, 3, 0);
        TaflHall shut = Checks.hall(1, 0, "..aK...", "...aa..", NONE, NONE, NONE, NONE, NONE);
        shut.move(11, 4, 0);
        ended("a king that cannot move", shut, 3, 0);
        TaflHall king = Checks.hall(1, 0, ".K.a...", ".a.....", NONE, NONE, NONE, NONE, NONE);
        king.move(3, 2, 0);
        ended("the king can go to the corner", king, 0, -1);
    }

    private static TaflHall shuttle() {
        return Checks.hall(0, 0, NONE, ".a.....", NONE, NONE, NONE, "....d..", NONE);
    }

    private static void round(TaflHall hall) {
        hall.move(8, 9, 0);
        hall.move(39, 40, 0);
        hall.move(9, 8, 0);
        hall.move(40, 39, 0);
    }

    private static void theThirdTime() {
        TaflHall hall = shuttle();
        Checks.same("once", hall.of(9), 1);
        round(hall);
        Checks.same("twice", hall.of(9), 2);
        ended("twice", hall, 0, -1);
        hall.move(8, 9, 0);
        Checks.same("the next one twice", hall.of(9), 2);
        hall.move(39, 40, 0);
        hall.move(9, 8, 0);
        ended("not yet", hall, 0, -1);
        hall.move(40, 39, 0);
        ended("the third time", hall, 4, -1);
        Checks.same("of(9)", hall.of(9), 3);
        Checks.refusedState("move", hall, () -> hall.move(8, 9, 0));
        hall.back();
        ended("taken back", hall, 0, -1);
        hall.move(40, 41, 0);
        ended("another one", hall, 0, -1);
        hall.back();
        hall.move(40, 39, 0);
        ended("what was taken back does not count", hall, 4, -1);
        Checks.same("of(9)", hall.of(9), 3);
    }

    private static void theThirdTimeIsCountedAnew() {
        TaflHall hall = shuttle();
        round(hall);
        hall.side(0);
        Checks.same("changed by hand", hall.of(9), 1);
        round(hall);
        ended("twice since then", hall, 0, -1);
        round(hall);
        ended("the third time since then", hall, 4, -1);
        TaflHall other = Checks.hall(0, 0, NONE, ".a.....", NONE, NONE, NONE, "....d..", NONE);
        other.move(8, 10, 0);
        other.move(39, 40, 0);
        other.move(10, 9, 0);
        other.move(40, 39, 0);
        other.move(9, 8, 0);
        Checks.same("with the other side to move it is another board", other.of(9), 1);
    }

    private static void clocks() {
        TaflHall hall = new TaflHall();
        hall.move(3, 4, 1);
        Checks.same("a quarter", hall.time(0), 602.25);
        Checks.same("the other clock", hall.time(1), 600.0);
        hall.move(17, 18, 2400);
        ended("no time left is not lost", hall, 0, -1);
        Checks.same("and something is given", hall.time(1), 2.5);
        hall.move(4, 3, 2410);
        ended("more than there is", hall, 5, 1);
        Checks.same("it stays below", hall.time(0), -0.25);
        Checks.same("the move is done", hall.at(3), 1);
        Checks.same("the other side is to move", hall.of(1), 1);
        hall.back();
        hall.move(4, 3, 0);
        hall.move(18, 17, 11);
        ended("the other side's clock", hall, 5, 0);
        Checks.same("its time", hall.time(1), -0.25);
    }

    private static void clocksGoFirst() {
        TaflHall home = Checks.hall(0, 1, "...K...", NONE, NONE, NONE, ".a.....", NONE, NONE);
        home.move(3, 0, 4000);
        ended("home too late", home, 5, 0);
        Checks.same("the king is there", home.of(8), 0);
        TaflHall captured = Checks.hall(0, 0, "..a....", NONE, "...Ka..", NONE, NONE, NONE, NONE);
        Checks.same("captured too late", captured.move(2, 16, 2401), 1);
        ended("captured too late", captured, 5, 1);
        Checks.same("no king", captured.of(8), -1);
        TaflHall even = shuttle();
        round(even);
        even.move(8, 9, 0);
        even.move(39, 40, 0);
        even.move(9, 8, 0);
        even.move(40, 39, 4000);
        ended("the third time too late", even, 5, 0);
        Checks.same("of(9)", even.of(9), 3);
    }

    private static void theOrderOfEnds() {
        TaflHall home = Checks.hall(0, 1, "...K...", NONE, NONE, NONE, NONE, NONE, NONE);
        home.move(3, 0, 0);
        ended("home, and nobody is left to move", home, 1, 1);
        TaflHall captured = Checks.hall(0, 0, "..a....", NONE, "...Ka..", NONE, NONE, NONE, NONE);
        captured.move(2, 16, 0);
        ended("captured, and nobody is left to move", captured, 2, 0);
    }

    private static void backAndAgain() {
        TaflHall hall = Checks.hall(0, 0, "..a....", NONE, "...da..", NONE, "....d..", NONE, NONE);
        String before = Checks.picture(hall);
        hall.move(2, 16, 4);
        String first = Checks.picture(hall);
        hall.move(32, 33, 8);
        String second = Checks.picture(hall);
        Checks.same("back()", hall.back(), 1);
        Checks.same("of(4)", hall.of(4), 1);
        Checks.same("of(5)", hall.of(5), 1);
        Checks.same("the captured stays captured", hall.at(17), 0);
        Checks.same("back()", hall.back(), 0);
        Checks.same("of(5)", hall.of(5), 2);
        Checks.same("the captured is there again", hall.at(17), 2);
        Checks.same("of(12)", hall.of(12), 0);
        Checks.refusedState("back()", hall, hall::back);
        Checks.same("again()", hall.again(), 1);
        Checks.same("again()", hall.again(), 0);
        Checks.same("as it was", Checks.picture(hall), second);
        Checks.refusedState("again()", hall, hall::again);
        hall.back();
        Checks.same("but for what could be done again", Checks.rows(hall), first.substring(0, 56));
        hall.back();
        Checks.same("the first board", Checks.rows(hall), before.substring(0, 56));
    }

    private static void backFromAnEnd() {
        TaflHall hall = Checks.hall(0, 0, "..a....", NONE, "...Ka..", NONE, NONE, NONE, NONE);
        hall.move(2, 16, 0);
        Checks.same("back()", hall.back(), 0);
        ended("taken back", hall, 0, -1);
        Checks.same("the king", hall.of(8), 17);
        Checks.same("again()", hall.again(), 0);
        ended("done again", hall, 2, 0);
        hall.back();
        Checks.same("another move", hall.move(2, 3, 0), 0);
        ended("another move", hall, 0, -1);
        TaflHall late = new TaflHall();
        late.move(3, 4, 4000);
        late.back();
        ended("a lost clock taken back", late, 0, -1);
        Checks.same("its time", late.time(0), 600.0);
        late.again();
        ended("done again", late, 5, 1);
        Checks.same("its time", late.time(0), -400.0);
    }

    private static void backAndClocks() {
        TaflHall hall = new TaflHall();
        hall.move(3, 4, 40);
        hall.move(17, 18, 80);
        hall.back();
        Checks.same("time(1) taken back", hall.time(1), 600.0);
        Checks.same("time(0) stays", hall.time(0), 592.5);
        hall.back();
        Checks.same("time(0) taken back", hall.time(0), 600.0);
        hall.again();
        hall.again();
        Checks.same("time(0) done again", hall.time(0), 592.5);
        Checks.same("time(1) done again", hall.time(1), 582.5);
    }

    private static void aMoveForgetsWhatWasTakenBack() {
        TaflHall hall = new TaflHall();
        hall.move(3, 4, 0);
        hall.move(17, 18, 0);
        hall.back();
        hall.back();
        Checks.same("of(5)", hall.of(5), 2);
        hall.move(3, 4, 0);
        Checks.same("a like one", hall.of(5), 0);
        Checks.refusedState("again()", hall, hall::again);
        Checks.same("back()", hall.back(), 0);
        Checks.same("again()", hall.again(), 0);
    }

    private static void givingUp() {
        TaflHall hall = new TaflHall();
        Checks.same("resign()", hall.resign(), 5);
        ended("the side 0 gave up", hall, 5, 1);
        Checks.same("the side to move stays", hall.of(1), 0);
        Checks.same("no knock", hall.of(14), 0);
        TaflHall other = new TaflHall();
        other.move(3, 4, 0);
        Checks.same("resign()", other.resign(), 5);
        ended("the side 1 gave up", other, 5, 0);
        Checks.same("the side to move stays", other.of(1), 1);
    }

    private static void givingUpKeepsCounts() {
        TaflHall hall = Checks.hall(0, 0, "..a....", NONE, "...da..", NONE, "....d..", NONE, NONE);
        hall.move(2, 16, 4);
        hall.move(32, 33, 8);
        hall.move(16, 15, 8);
        hall.back();
        hall.resign();
        Checks.same("of(4)", hall.of(4), 2);
        Checks.same("of(5)", hall.of(5), 1);
        Checks.same("of(9)", hall.of(9), 1);
        Checks.same("of(12)", hall.of(12), 1);
        Checks.same("of(13)", hall.of(13), 3233);
        Checks.same("last()", hall.last(), "32-33");
        Checks.refusedState("back()", hall, hall::back);
        Checks.refusedState("again()", hall, hall::again);
    }

    private static void knocks() {
        TaflHall hall = new TaflHall();
        hall.resign();
        Checks.same("a knock", hall.resign(), 5);
        Checks.same("another one", hall.resign(), 5);
        Checks.same("of(14)", hall.of(14), 2);
        ended("nothing else", hall, 5, 1);
        hall.begin(0);
        hall.clear();
        Checks.same("knocks ever", hall.of(14), 2);
        TaflHall home = Checks.hall(0, 1, "...K...", NONE, NONE, NONE, ".a.....", NONE, NONE);
        home.move(3, 0, 0);
        Checks.same("a knock at another end", home.resign(), 1);
        Checks.same("is not giving up", home.of(3), 1);
        Checks.same("back()", home.back(), 0);
        Checks.same("knocks are not taken back", home.of(14), 1);
        ended("the game goes on", home, 0, -1);
        Checks.same("now it is giving up", home.resign(), 5);
        ended("given up", home, 5, 0);
    }
}
