/** Promises 20 to 23: ways, best, threatened, digest. */
public final class OutlookTest {

    private static final String NONE = ".......";

    public static void main(String[] args) {
        waysOfOne();
        waysOfTwo();
        noWayBehindTheEnd();
        waysRefuses();
        bestOfOne();
        bestOfTwo();
        bestOfTwoBehindTheFirstMoveAlone();
        bestRefuses();
        threatenedSquares();
        threatenedWithAnEnd();
        digestOfAll();
        nothingIsChanged();
        Checks.finish();
    }

    private static void waysOfOne() {
        Checks.same("as it begins", new TaflHall().ways(1), 40);
        TaflHall hall = Checks.hall(0, 0, NONE, ".a.....", NONE, NONE, NONE, NONE, NONE);
        Checks.same("one attacker", hall.ways(1), 12);
        hall.resign();
        Checks.same("with an end", hall.ways(1), 12);
        hall.side(1);
        Checks.same("nobody", hall.ways(1), 0);
    }

    private static void waysOfTwo() {
        TaflHall alone = Checks.hall(0, 0, NONE, ".a.....", NONE, NONE, NONE, NONE, NONE);
        Checks.same("nobody follows", alone.ways(2), 0);
        TaflHall two = Checks.hall(0, 0, NONE, ".a.....", NONE, NONE, NONE, NONE, "...d...");
        // The defender has 4 ways along its row and 5 in its column; an attacker on 10 leaves 3, one on 43 3.
        Checks.same("two without a king", two.ways(2), 10 * 9 + 7 + 8);
        two.resign();
        Checks.same("with an end", two.ways(2), 10 * 9 + 7 + 8);
    }

    private static void noWayBehindTheEnd() {
        String[] home = {".K.....", NONE, NONE, NONE, NONE, "......a", NONE};
        Checks.same("home at corners", Checks.hall(0, 1, home).ways(2), 98);
        Checks.same("home at the edge", Checks.hall(8, 1, home).ways(2), 48);
        String[] captured = {NONE, "aK....a", NONE, NONE, NONE, NONE, NONE};
        Checks.same("captured", Checks.hall(0, 0, captured).ways(2), 112);
        Checks.same("not captured", Checks.hall(1, 0, captured).ways(2), 118);
        // The defender adds 10 ways behind each of 11 moves, but for 13-12 which leaves it 8.
        captured[6] = ".....d.";
        Checks.same("captured, with a defender left", Checks.hall(0, 0, captured).ways(2), 112 + 108);
        TaflHall set = Checks.hall(0, 1, "K......", "a.....d", NONE, NONE, NONE, NONE, NONE);
        Checks.same("a king that was set is no end", set.ways(2) > 0, true);
    }

    private static void waysRefuses() {
        TaflHall hall = new TaflHall();
        for (int depth : new int[] {0, 3, -1, Integer.MIN_VALUE, Integer.MAX_VALUE}) {
            Checks.refusedArgument("ways(" + depth + ")", hall, () -> hall.ways(depth));
        }
    }

    private static void bestOfOne() {
        TaflHall home = Checks.hall(0, 1, "...K...", NONE, NONE, NONE, ".a.....", NONE, NONE);
        Checks.same("home, the smallest number", home.best(1), 300);
        TaflHall captures = Checks.hall(0, 0, "..a....", NONE, "...Ka..", NONE, NONE, NONE, "..a....");
        Checks.same("captures the king, the smallest number", captures.best(1), 216);
        captures.resign();
        Checks.same("with an end", captures.best(1), 216);
        captures.side(1);
        Checks.same("the king goes home", captures.best(1) / 100, 17);
        TaflHall nobody = Checks.hall(0, 1, ".a.....", NONE, NONE, NONE, NONE, NONE, NONE);
        Checks.same("no move", nobody.best(1), -1);
        nobody.side(0);
        Checks.same("all alike", nobody.best(1), 102);
        Checks.same("a step nearer to safety", alikeButForSteps().best(1), 2427);
    }

    /** All moves of the side 1 leave the king 11 squares at most; by 24-27 he is one step from safety. */
    private static TaflHall alikeButForSteps() {
        return Checks.hall(0, 1, "...d...", NONE, NONE, "d..K...", NONE, NONE, NONE);
    }

    private static void bestOfTwo() {
        // The king will go to 0, but for an attacker on 2.
        TaflHall block = Checks.hall(1, 0, "...Ka..", "...a...", "..a....", NONE, NONE, NONE, NONE);
        Checks.same("stands in the king's way", block.best(2), 1602);
        block.resign();
        Checks.same("with an end", block.best(2), 1602);
        TaflHall home = Checks.hall(0, 1, "..d....", NONE, "...ad..", "......K", NONE, NONE, NONE);
        Checks.same("a corner rather than a piece", home.best(2), 2706);
        // Anywhere but on the throne the king is captured by the next move.
        TaflHall flees = Checks.hall(0, 1, "..a....", "...d...", ".a.Ka..", NONE, "...d...", NONE, NONE);
        Checks.same("flees to the throne", flees.best(2), 1724);
        TaflHall nobody = Checks.hall(0, 1, ".a.....", NONE, NONE, NONE, NONE, NONE, NONE);
        Checks.same("no move", nobody.best(2), -1);
    }

    private static void bestOfTwoBehindTheFirstMoveAlone() {
        // Without a king every light is -32, however many are captured.
        TaflHall noKing = Checks.hall(0, 0, "..a....", NONE, "...da..", NONE, NONE, NONE, NONE);
        Checks.same("no king", noKing.best(2), 201);
        TaflHall captures = Checks.hall(0, 0, "..a....", NONE, "...Ka..", NONE, NONE, "d......", NONE);
        Checks.same("the king is captured", captures.best(2), 216);
        // Behind 16-2 the side 1 has no move; the light then is -0.75.
        TaflHall shut = Checks.hall(1, 0, "...Ka..", "...a...", "..a....", NONE, NONE, NONE, NONE);
        Checks.same("the other side has no move", shut.best(2), 1602);
        Checks.same("the light, not the worth", alikeButForSteps().best(2), 301);
        // The king could be captured on 3, but he has come to where he is safe.
        TaflHall home = Checks.hall(8, 1, "..a....", "...Ka..", NONE, NONE, NONE, NONE, NONE);
        Checks.same("the king came home", home.best(2), 1003);
    }

    private static void bestRefuses() {
        TaflHall hall = new TaflHall();
        for (int depth : new int[] {0, 3, -1, Integer.MIN_VALUE, Integer.MAX_VALUE}) {
            Checks.refusedArgument("best(" + depth + ")", hall, () -> hall.best(depth));
        }
    }

    private static void threatenedSquares() {
        Checks.same("as it begins", new TaflHall().threatened(), 0L);
        String[] rows = {"..a....", NONE, "ad.da..", NONE, NONE, NONE, NONE};
        Checks.same("two of the side 1", Checks.hall(0, 0, rows).threatened(), Checks.set(15, 17));
        Checks.same("none of the side 0", Checks.hall(0, 1, rows).threatened(), 0L);
        String[] king = {"..a....", NONE, "ad.Ka..", NONE, NONE, NONE, NONE};
        Checks.same("without the king", Checks.hall(0, 0, king).threatened(), Checks.set(15));
        String[] apart = {"..d....", NONE, "da.....", NONE, NONE, ".....a.", "......K"};
        Checks.same("by several moves", Checks.hall(2, 1, apart).threatened(), Checks.set(15));
        String[] several = {"..aa...", NONE, "ad.....", NONE, "....da.", NONE, NONE};
        Checks.same("on several squares", Checks.hall(0, 0, several).threatened(), Checks.set(15, 32));
    }

    private static void threatenedWithAnEnd() {
        TaflHall hall = Checks.hall(0, 0, "..a....", NONE, "ad.da..", NONE, NONE, NONE, NONE);
        hall.resign();
        Checks.same("with an end", hall.threatened(), Checks.set(15, 17));
    }

    private static void digestOfAll() {
        TaflHall hall = new TaflHall();
        checkDigest("as it begins", hall);
        hall.move(3, 4, 1);
        checkDigest("a move", hall);
        hall.move(17, 18, 3);
        hall.resign();
        hall.resign();
        checkDigest("given up", hall);
        TaflHall late = Checks.hall(4, 0, "..a....", NONE, "ad.Ka..", NONE, NONE, "d......", NONE);
        checkDigest("set", late);
        late.move(2, 16, 4000);
        checkDigest("no king, no time", late);
        late.clear();
        checkDigest("empty", late);
    }

    private static void checkDigest(String what, TaflHall hall) {
        long sum = 58300;
        for (int number = 0; number <= 14; number++) {
            sum = sum * 31 + hall.of(number);
        }
        sum = sum * 31 + hall.key();
        for (int square = 0; square < 49; square++) {
            sum = sum * 31 + hall.reach(square);
        }
        sum = sum * 31 + hall.threatened();
        sum = sum * 31 + hall.ways(1);
        sum = sum * 31 + hall.best(1);
        sum = sum * 31 + (long) (hall.time(0) * 4.0);
        sum = sum * 31 + (long) (hall.time(1) * 4.0);
        sum = sum * 31 + (long) (hall.worth() * 64.0);
        Checks.same("digest " + what, hall.digest(), sum);
    }

    private static void nothingIsChanged() {
        TaflHall hall = Checks.hall(15, 0, "..a....", NONE, "ad.Ka..", NONE, NONE, "d......", NONE);
        hall.move(2, 9, 0);
        hall.back();
        String before = Checks.picture(hall);
        hall.ways(1);
        hall.ways(2);
        hall.best(1);
        hall.best(2);
        hall.threatened();
        hall.takes(2, 16);
        hall.digest();
        Checks.same("nothing is changed", Checks.picture(hall), before);
        Checks.same("again()", hall.again(), 0);
    }
}
