import java.math.BigInteger;
import java.util.ArrayList;
import java.util.List;

/** The edges that promises 20 to 23 name, and section 4 as far as they ask for it: what would be. */
final class OutlookEdges {

    private static final String NONE = Halls.NONE;
    private static final int[] NO_DEPTHS = {Integer.MIN_VALUE, -1, 0, 3, Integer.MAX_VALUE};

    private OutlookEdges() {
    }

    static void run() {
        waysWithoutAMove();
        waysOfManyMoves();
        waysWithAnEnd();
        noWayBehindACapture();
        noWayBehindSafety();
        waysOfAKingThatWasSet();
        waysWithoutAKing();
        waysRefuses();
        bestWithoutAMove();
        bestWithAnEnd();
        bestOfSeveral();
        bestOfManyMoves();
        bestForEachSide();
        bestRefuses();
        searchOfTwoForEachSide();
        searchOfTwoOfAllAnswers();
        searchOfTwoWithoutAKing();
        searchOfTwoBehindSafety();
        searchOfTwoOfAKingThatWasSet();
        searchOfTwoWithoutAnAnswer();
        searchOfTwoByLights();
        threatenedWithoutAnything();
        threatenedWithoutTheKing();
        threatenedOfTheOtherSide();
        threatenedByManyMoves();
        threatenedWithAnEnd();
        digestStarts();
        digestOfNumbersThatDiffer();
        digestWrapsAround();
        nothingIsChanged();
    }

    private static void waysWithoutAMove() {
        Document.promise(20, "Returns in how many ways so many MOVES could follow, the SIDES in turn");
        for (int depth = 1; depth <= 2; depth++) {
            Checks.same("the empty board", Halls.empty().ways(depth), 0);
            Checks.same("the full board", Halls.full().ways(depth), 0);
            Checks.same("END 3", Halls.noMove().ways(depth), 0);
        }
        TaflHall alone = Halls.alone(0, 8, 1);
        Checks.same("one move by one side alone", alone.ways(1), 12);
        Checks.same("and then none", alone.ways(2), 0);
        TaflHall last = Checks.hall(0, 0, "..a....", NONE, "...da..", NONE, NONE, NONE, NONE);
        // By 2-16 the only defender is captured.
        int answers = 0;
        for (int from : new int[] {2, 18}) {
            answers += answersOf(last, from);
        }
        Checks.same("its last piece may be captured", last.ways(2), answers);
    }

    /** How many moves the other side has behind each move of a piece, by making and taking back. */
    private static int answersOf(TaflHall hall, int from) {
        int answers = 0;
        long goals = hall.reach(from);
        for (int to = 0; to < 49; to++) {
            if ((goals >> to & 1) != 0) {
                hall.move(from, to, 0);
                answers += hall.of(11);
                hall.back();
            }
        }
        return answers;
    }

    private static void waysOfManyMoves() {
        Document.promise(20, "Returns in how many ways so many MOVES could follow, the SIDES in turn");
        Checks.same("many", Halls.many().ways(1), 98);
        TaflHall hall = Halls.manyAndOne(2);
        int answers = 0;
        for (int from = 0; from < 49; from++) {
            answers += hall.at(from) == 1 ? answersOf(hall, from) : 0;
        }
        Checks.same("behind many", hall.ways(2), answers);
        for (int square = 0; square < 49; square++) {
            Checks.same("the king alone on " + square, Halls.alone(0, square, 3).ways(1), 12);
        }
    }

    private static void waysWithAnEnd() {
        Document.promise(20, "(END does not matter;");
        int[] one = {43, 12, 12, 0, 12, 23, 23};
        for (int i = 0; i < Halls.BY_END.length; i++) {
            TaflHall hall = Halls.BY_END[i].make();
            TaflHall goesOn = Halls.BY_END[i].make();
            goesOn.put(0, goesOn.at(0));
            Checks.same("one, END " + Halls.ENDS[i], hall.ways(1), one[i]);
            Checks.same("two, END " + Halls.ENDS[i], hall.ways(2), goesOn.ways(2));
            Checks.same("END stays", hall.of(2), Halls.ENDS[i]);
        }
        TaflHall third = Halls.even();
        third.back();
        // Behind the move by which the board would be there for the third time others follow, too.
        Checks.same("a third time ahead", third.ways(2), answersOf(third, 40));
    }

    private static void noWayBehindACapture() {
        Document.promise(20, "behind a MOVE of these by which the KING is captured, or comes to where it is safe, "
                + "none follows)");
        String[] rows = {NONE, "aK....a", NONE, NONE, NONE, NONE, ".....d."};
        TaflHall hall = Checks.hall(0, 0, rows);
        int answers = answersOf(hall, 7) + answersOf(hall, 13);
        hall.move(13, 9, 0);
        Checks.same("by 13-9 the king is captured", hall.of(2), 2);
        int behind = hall.of(11);
        hall.back();
        Checks.same("the defender could move then", behind > 0, true);
        Checks.same("but no way follows", hall.ways(2), answers - behind);
        Checks.same("a strong one is not captured", Checks.hall(1, 0, rows).ways(2) > answers - behind, true);
    }

    private static void noWayBehindSafety() {
        Document.promise(20, "behind a MOVE of these by which the KING is captured, or comes to where it is safe, "
                + "none follows)");
        String[] rows = {".K.....", NONE, NONE, NONE, NONE, "......a", NONE};
        for (int rules = 0; rules <= 8; rules += 8) {
            TaflHall hall = Checks.hall(rules, 1, rows);
            int answers = 0;
            long goals = hall.reach(1);
            for (int to = 0; to < 49; to++) {
                if ((goals >> to & 1) != 0) {
                    hall.move(1, to, 0);
                    answers += hall.of(2) == 1 ? 0 : hall.of(11);
                    hall.back();
                }
            }
            Checks.same("by rules " + rules, hall.ways(2), answers);
            Checks.same("by rules " + rules, answers, rules == 0 ? 98 : 48);
        }
    }

    private static void waysOfAKingThatWasSet() {
        Document.promise(20, "or comes to where it is safe");
        TaflHall hall = Checks.hall(0, 1, "K......", ".d.....", NONE, NONE, NONE, ".a.....", NONE);
        int answers = answersOf(hall, 8);
        long goals = hall.reach(0);
        for (int to = 0; to < 49; to++) {
            if ((goals >> to & 1) != 0 && to != 6 && to != 42) {
                hall.move(0, to, 0);
                answers += hall.of(11);
                hall.back();
            }
        }
        Checks.same("set on a corner he has not come there", hall.ways(2), answers);
    }

    private static void waysWithoutAKing() {
        Document.promise(20, "behind a MOVE of these by which the KING is captured");
        TaflHall hall = Halls.shuttle();
        // An attacker on 11 or on 36 takes two squares off the defender's twelve.
        Checks.same("he was not there", hall.ways(2), 10 * 12 + 2 * 10);
        Checks.same("nor is he behind his capture", Halls.kingCaptured().ways(2) > 0, true);
    }

    private static void waysRefuses() {
        Document.promise(20, "Throws `IllegalArgumentException` if depth is not 1 or 2");
        for (int depth : NO_DEPTHS) {
            for (Checks.Maker maker : Halls.BY_END) {
                Checks.refusesArgument("ways(" + depth + ")", maker, hall -> hall.ways(depth));
            }
            Checks.refusesArgument("without a move", Halls::empty, hall -> hall.ways(depth));
        }
    }

    private static void bestWithoutAMove() {
        Document.promise(21, "NONE without a MOVE");
        TaflHall blocked = Checks.hall(1, 1, "..aKa..", "...a...", NONE, NONE, NONE, NONE, NONE);
        TaflHall king = Checks.hall(0, 0, NONE, "...K...", NONE, NONE, NONE, NONE, NONE);
        for (int depth = 1; depth <= 2; depth++) {
            Checks.same("the empty board", Halls.empty().best(depth), -1);
            Checks.same("the full board", Halls.full().best(depth), -1);
            Checks.same("END 3", Halls.noMove().best(depth), -1);
            Checks.same("a king that cannot move", blocked.best(depth), -1);
            Checks.same("the other side's king alone", king.best(depth), -1);
            Checks.same("one move alone", oneMove().best(depth), 100);
        }
    }

    /** The king may go from 1 to 0, and nothing else may move. */
    private static TaflHall oneMove() {
        return Checks.hall(1, 1, ".Ka....", ".a.....", NONE, NONE, NONE, NONE, NONE);
    }

    private static void bestWithAnEnd() {
        Document.promise(21, "(END does not matter)");
        for (int i = 0; i < Halls.BY_END.length; i++) {
            TaflHall goesOn = Halls.BY_END[i].make();
            goesOn.put(0, goesOn.at(0));
            Checks.same("goes on", goesOn.of(2), 0);
            for (int depth = 1; depth <= 2; depth++) {
                Checks.same("END " + Halls.ENDS[i], Halls.BY_END[i].make().best(depth), goesOn.best(depth));
            }
        }
    }

    private static void bestOfSeveral() {
        Document.section(4, "of several the smallest number");
        for (int depth = 1; depth <= 2; depth++) {
            Checks.same("without a king all are alike", Halls.alone(0, 8, 1).best(depth), 801);
            Checks.same("for the side 1, too", Halls.alone(0, 8, 2).best(depth), 801);
            TaflHall two = Checks.hall(0, 0, NONE, NONE, "....a..", NONE, "..a....", NONE, NONE);
            Checks.same("of two pieces the one on the smaller square", two.best(depth), 1804);
            Checks.same("four ways to a corner", Halls.alone(0, 3, 3).best(depth), 300);
            Checks.same("the last corner is as good", Halls.alone(0, 45, 3).best(depth), 4542);
            TaflHall capture = Checks.hall(0, 0, "..a....", NONE, "...Ka..", NONE, NONE, NONE, "..a....");
            Checks.same("two that capture the king", capture.best(depth), 216);
        }
    }

    private static void bestOfManyMoves() {
        Document.section(4, "The best MOVE is that with the greatest of these for the SIDE 1, "
                + "the least for the SIDE 0");
        for (int depth = 1; depth <= 2; depth++) {
            Checks.same("one of the last captures the king", Halls.manyAndOne(3).best(depth), 4345);
            Checks.same("all are alike without him", Halls.many().best(depth), 102);
        }
    }

    private static void bestForEachSide() {
        Document.section(4, "The best MOVE is that with the greatest of these for the SIDE 1, "
                + "the least for the SIDE 0");
        TaflHall attackers = Checks.hall(0, 0, "..a....", "......K", "ad.....", NONE, NONE, NONE, NONE);
        Checks.same("the side 0 captures a defender", attackers.best(1), 216);
        // The king can't come to a corner by one move; to be near one is worth less than the attacker.
        TaflHall defenders = Checks.hall(0, 1, "..d....", NONE, "da.....", "...K...", NONE, NONE, NONE);
        Checks.same("the side 1 captures an attacker", defenders.best(1), 216);
        TaflHall home = Checks.hall(0, 1, "..d....", NONE, "da.....", "......K", NONE, NONE, NONE);
        Checks.same("but he would rather be safe", home.best(1), 2706);
    }

    private static void bestRefuses() {
        Document.promise(21, "Throws `IllegalArgumentException` if depth is not 1 or 2");
        for (int depth : NO_DEPTHS) {
            for (Checks.Maker maker : Halls.BY_END) {
                Checks.refusesArgument("best(" + depth + ")", maker, hall -> hall.best(depth));
            }
            Checks.refusesArgument("without a move", Halls::empty, hall -> hall.best(depth));
        }
    }

    private static void searchOfTwoForEachSide() {
        Document.section(4, "of all LIGHTS behind a MOVE and a MOVE of the other SIDE the least one "
                + "(as the SIDE 1 moves first), or the greatest one (as the SIDE 0 does)");
        // The king would go to 0, but for an attacker on 2.
        TaflHall block = Checks.hall(1, 0, "...Ka..", "...a...", "..a....", NONE, NONE, NONE, NONE);
        Checks.same("the side 0 stands in the king's way", block.best(2), 1602);
        // Anywhere but on the throne the king is captured by the next move.
        TaflHall flees = Checks.hall(0, 1, "..a....", "...d...", ".a.Ka..", NONE, "...d...", NONE, NONE);
        Checks.same("the king flees", flees.best(2), 1724);
    }

    private static void searchOfTwoOfAllAnswers() {
        Document.section(4, "of all LIGHTS behind a MOVE and a MOVE of the other SIDE");
        Checks.Maker first = () -> Checks.hall(0, 0, NONE, "K.a....", NONE, NONE, "....a..", NONE, NONE);
        tried("the first answer is the one that counts", first, 902);
        Checks.Maker last = () -> Checks.hall(0, 0, NONE, "..a....", NONE, "K......", NONE, NONE, NONE);
        tried("the last answer is the one that counts", last, 902);
        // The attacker stands in the king's way: wherever it goes, the king has more squares than ahead of that.
        Checks.Maker better = () -> Checks.hall(0, 1, "..d....", "a......", "..K....", NONE, NONE, NONE, NONE);
        tried("all answers are better than none", better, 1614);
        Checks.Maker wall = () -> Checks.hall(0, 1, NONE, "..d....", NONE, NONE, ".K..a..", NONE, NONE);
        tried("better by a square that becomes free", wall, 2931);
        tried("as it begins", Halls::fresh, Halls.fresh().best(2));
    }

    /** The best move is the due one, also by making all moves and answers. */
    private static void tried(String what, Checks.Maker maker, int due) {
        Checks.same(what, maker.make().best(2), due);
        boolean least = maker.make().of(1) == 1;
        int best = -1;
        double bestLight = 0.0;
        for (int move : moves(maker.make())) {
            TaflHall hall = maker.make();
            hall.move(move / 100, move % 100, 0);
            double light = hall.of(2) == 0 ? answered(hall, least) : light(hall);
            if (best == -1 || (least ? light > bestLight : light < bestLight)) {
                best = move;
                bestLight = light;
            }
        }
        Checks.same(what + ", by trying", best, due);
    }

    private static double answered(TaflHall hall, boolean least) {
        double found = least ? 100.0 : -100.0;
        for (int answer : moves(hall)) {
            hall.move(answer / 100, answer % 100, 0);
            found = least ? Math.min(found, light(hall)) : Math.max(found, light(hall));
            hall.back();
        }
        return found;
    }

    private static double light(TaflHall hall) {
        double worth = hall.worth();
        int steps = hall.of(10);
        return worth == 32.0 || worth == -32.0 ? worth : worth + 0.125 * (steps == -1 ? 8 : steps);
    }

    /** All moves of the side to move, the smallest number first. */
    private static List<Integer> moves(TaflHall hall) {
        List<Integer> moves = new ArrayList<>();
        int side = hall.of(1);
        for (int from = 0; from < 49; from++) {
            int piece = hall.at(from);
            long goals = piece != 0 && (piece == 1 ? 0 : 1) == side ? hall.reach(from) : 0L;
            for (int to = 0; to < 49; to++) {
                if ((goals >> to & 1) != 0) {
                    moves.add(100 * from + to);
                }
            }
        }
        return moves;
    }

    private static void searchOfTwoWithoutAKing() {
        Document.section(4, "the LIGHT behind the first MOVE alone, if there is no KING then");
        TaflHall captured = Checks.hall(0, 0, "..a....", NONE, "...Ka..", NONE, NONE, "d......", NONE);
        Checks.same("he is captured", captured.best(2), 216);
        TaflHall never = Checks.hall(0, 0, "..a....", NONE, "...da..", NONE, NONE, NONE, NONE);
        Checks.same("he never was there: all are alike", never.best(2), 201);
        TaflHall side1 = Checks.hall(0, 1, "..d....", NONE, "...ad..", NONE, NONE, NONE, NONE);
        Checks.same("for the side 1, too", side1.best(2), 201);
    }

    private static void searchOfTwoBehindSafety() {
        Document.section(4, "or it came to where it is safe by that MOVE");
        // On 3 the king could be captured by 11-4, on 7 he could not.
        TaflHall home = Checks.hall(8, 1, "..a....", "...Ka..", NONE, NONE, NONE, NONE, NONE);
        Checks.same("he came there", home.best(2), 1003);
    }

    private static void searchOfTwoOfAKingThatWasSet() {
        Document.section(4, "or it came to where it is safe by that MOVE");
        // The king on 21 would be captured by 30-28; of the defender's moves only 8-29 forestalls that.
        TaflHall set = Checks.hall(8, 1, NONE, ".d.....", "a......", "K......", "..a....", NONE, NONE);
        Checks.same("he was set there", set.best(2), 829);
        Checks.same("of one move all are alike", set.best(1), 801);
    }

    private static void searchOfTwoWithoutAnAnswer() {
        Document.section(4, "or the other SIDE has no MOVE");
        // Behind 16-2 the side 1 has no move: the light of that is -0.75, of others 32 or more than -0.75.
        TaflHall shut = Checks.hall(1, 0, "...Ka..", "...a...", "..a....", NONE, NONE, NONE, NONE);
        Checks.same("the side 1 has none", shut.best(2), 1602);
        TaflHall alone = Halls.alone(0, 8, 3);
        // On 1 and on 7 he is a step from a corner, but all but corners have the light of his twelve squares.
        Checks.same("the side 0 has none", alone.best(2), 801);
        TaflHall near = Halls.alone(0, 7, 3);
        Checks.same("a corner is better", near.best(2), 700);
    }

    private static void searchOfTwoByLights() {
        Document.section(4, "its WORTH without what is taken off for STEPS");
        TaflHall hall = Checks.hall(0, 1, "...d...", NONE, NONE, "d..K...", NONE, NONE, NONE);
        Checks.same("by the worth he goes nearer to safety", hall.best(1), 2427);
        Checks.same("by the light all are alike", hall.best(2), 301);
    }

    private static void threatenedWithoutAnything() {
        Document.promise(22, "Returns the set of SQUARES of the SIDE that is not to move, without the KING, "
                + "that the other one could capture by its next MOVE");
        Checks.same("the empty board", Halls.empty().threatened(), 0L);
        Checks.same("the full board", Halls.full().threatened(), 0L);
        Checks.same("as it begins", Halls.fresh().threatened(), 0L);
        Checks.same("nobody is there", Halls.alone(0, 8, 1).threatened(), 0L);
        TaflHall corner = Checks.hall(0, 0, ".d.....", NONE, "..a....", NONE, NONE, NONE, NONE);
        Checks.same("by a corner", corner.threatened(), Checks.set(1));
        TaflHall last = Checks.hall(0, 0, NONE, NONE, NONE, NONE, "....a..", NONE, ".....d.");
        Checks.same("the last square where that is", last.threatened(), Checks.set(47));
        TaflHall three = Checks.hall(0, 0, "..a....", "..d....", "ad.da..", NONE, NONE, NONE, "..a....");
        Checks.same("three at once", three.threatened(), Checks.set(9, 15, 17));
        TaflHall passed = Checks.hall(0, 0, NONE, NONE, "..da...", ".a..d..", NONE, NONE, NONE);
        Checks.same("not by a piece on the throne", passed.threatened() >> 25 & 1, 0L);
    }

    private static void threatenedWithoutTheKing() {
        Document.promise(22, "without the KING");
        String[] rows = {"..a....", NONE, "ad.Ka..", NONE, NONE, NONE, NONE};
        Checks.same("a defender beside him", Checks.hall(0, 0, rows).threatened(), Checks.set(15));
        String[] king = {"..a....", NONE, "...Ka..", NONE, NONE, NONE, NONE};
        Checks.same("he alone", Checks.hall(0, 0, king).threatened(), 0L);
        Checks.same("he could be captured", Checks.hall(0, 0, king).takes(2, 16), Checks.set(17));
    }

    private static void threatenedOfTheOtherSide() {
        Document.promise(22, "of the SIDE that is not to move");
        String[] rows = {"..a.d..", NONE, ".d.da.a", "....d..", "....a..", "....d..", NONE};
        Checks.same("of the side 1", Checks.hall(0, 0, rows).threatened() & Checks.set(0, 2, 18, 20, 32), 0L);
        Checks.same("of the side 0", Checks.hall(0, 1, rows).threatened() & Checks.set(4, 15, 17, 25, 39), 0L);
        Checks.same("one there", Checks.hall(0, 0, rows).threatened(), Checks.set(17));
    }

    private static void threatenedByManyMoves() {
        Document.promise(22, "that the other one could capture by its next MOVE");
        Checks.same("by the last ones", Halls.manyAndOne(2).threatened(), Checks.set(38));
        Checks.same("but not the king", Halls.manyAndOne(3).threatened(), 0L);
    }

    private static void threatenedWithAnEnd() {
        Document.promise(22, "(END does not matter)");
        for (int i = 0; i < Halls.BY_END.length; i++) {
            TaflHall goesOn = Halls.BY_END[i].make();
            goesOn.put(0, goesOn.at(0));
            Checks.same("END " + Halls.ENDS[i], Halls.BY_END[i].make().threatened(), goesOn.threatened());
        }
        TaflHall given = Checks.hall(0, 0, "..a....", NONE, "ad.da..", NONE, NONE, NONE, NONE);
        given.resign();
        Checks.same("given up", given.threatened(), Checks.set(15, 17));
        TaflHall late = Checks.hall(0, 1, "..a....", NONE, "ad.da..", NONE, NONE, ".....d.", NONE);
        late.move(40, 41, 4000);
        Checks.same("lost by the clock", late.threatened(), Checks.set(15, 17));
    }

    /** The digest without wrapping around. */
    private static BigInteger wholeDigest(TaflHall hall) {
        BigInteger sum = BigInteger.valueOf(58300);
        for (int what = 0; what <= 14; what++) {
            sum = next(sum, hall.of(what));
        }
        sum = next(sum, hall.key());
        for (int square = 0; square < 49; square++) {
            sum = next(sum, hall.reach(square));
        }
        sum = next(sum, hall.threatened());
        sum = next(sum, hall.ways(1));
        sum = next(sum, hall.best(1));
        sum = next(sum, (long) (hall.time(0) * 4.0));
        sum = next(sum, (long) (hall.time(1) * 4.0));
        return next(sum, (long) (hall.worth() * 64.0));
    }

    private static BigInteger next(BigInteger sum, long number) {
        return sum.multiply(BigInteger.valueOf(31)).add(BigInteger.valueOf(number));
    }

    private static void digestStarts() {
        Document.promise(23, "A number d starts with 58300; for each of the following numbers v, d becomes d * 31 + v");
        TaflHall empty = Halls.empty();
        // Of the empty board most numbers are 0, so the sum can be told without asking.
        long[] due = {0, 0, 0, -1, 0, 0, 0, 0, -1, 1, -1, 0, 0, -1, 0, empty.key()};
        BigInteger sum = BigInteger.valueOf(58300);
        for (long number : due) {
            sum = next(sum, number);
        }
        for (int square = 0; square < 49; square++) {
            sum = next(sum, 0);
        }
        long[] rest = {0, 0, -1, 2400, 2400, -2048};
        for (long number : rest) {
            sum = next(sum, number);
        }
        Checks.same("the empty board", empty.digest(), sum.longValue());
    }

    private static void digestOfNumbersThatDiffer() {
        Document.promise(23, "of() of 0 to 14; key(); SQUARE by SQUARE reach(); threatened(); ways() of 1; "
                + "best() of 1; both TIMES times 4.0 without what is behind their points (longs); WORTH times 64f likewise.");
        TaflHall hall = Checks.hall(6, 0, "..a....", NONE, "ad.da..", "...K...", NONE, "d......", ".a.....");
        hall.resign();
        hall.resign();
        hall.side(0);
        Checks.same("threatened", hall.threatened(), Checks.set(15, 17, 35));
        Checks.same("set", hall.digest(), wholeDigest(hall).longValue());
        hall.move(2, 16, 13);
        Checks.same("a capture", hall.digest(), wholeDigest(hall).longValue());
        hall.move(24, 25, 2407);
        hall.back();
        Checks.same("taken back", hall.digest(), wholeDigest(hall).longValue());
        hall.again();
        Checks.same("lost by the clock", hall.digest(), wholeDigest(hall).longValue());
        Checks.same("a time below 0", hall.time(1), -1.75);
    }

    private static void digestWrapsAround() {
        Document.promise(23, "which wraps around as a 64-bit integer");
        boolean below = false;
        boolean above = false;
        for (int i = 0; i < Halls.BY_END.length + 3; i++) {
            Checks.Maker[] others = {Halls::fresh, Halls::full, () -> Halls.alone(15, 48, 3)};
            Checks.Maker maker = i < Halls.BY_END.length ? Halls.BY_END[i] : others[i - Halls.BY_END.length];
            TaflHall hall = maker.make();
            BigInteger whole = wholeDigest(hall);
            Checks.same("too large for a long", whole.bitLength() > 64, true);
            Checks.same("the digest of hall " + i, hall.digest(), whole.longValue());
            below |= hall.digest() < 0;
            above |= hall.digest() > 0;
        }
        Checks.same("below and above 0", below && above, true);
    }

    private static void nothingIsChanged() {
        Document.promise(21, "Returns the best MOVE as a number for the SIDE that is to move");
        for (Checks.Maker maker : Halls.BY_END) {
            TaflHall hall = maker.make();
            hall.ways(1);
            hall.ways(2);
            hall.best(1);
            hall.best(2);
            hall.threatened();
            hall.digest();
            Checks.same("asking changes nothing", Checks.story(hall), Checks.story(maker.make()));
        }
    }
}
