/** The edges that section 3 and promises 6 to 9 name: how games end, clocks, back, again and giving up. */
final class GameEdges {

    private static final String NONE = Halls.NONE;

    private GameEdges() {
    }

    static void run() {
        theOtherSideIsToMove();
        goesOnUntil();
        theKingComes();
        theKingWasSetThere();
        theKingIsCaptured();
        noMoveByNoPiece();
        noMoveByBlockedPieces();
        noMoveOfASideSetByHand();
        theThirdTime();
        theThirdTimeOfTheBoardThatWasSet();
        theThirdTimeWithTheSameSide();
        theThirdTimeSinceChangedByHand();
        theThirdTimeSinceBegun();
        theThirdTimeWithoutWhatWasTakenBack();
        theOtherOneWins();
        clockAheadOfTheKingsSafety();
        clockAheadOfTheKingsCapture();
        clockAheadOfTheThirdTime();
        clockAheadOfNoMove();
        safetyAheadOfTheThirdTime();
        safetyAheadOfNoMove();
        captureAheadOfNoMove();
        clocksAtFirst();
        clocksInThisOrder();
        clocksAtZeroAndBelow();
        clocksStayBelow();
        doneAllTheSame();
        takenBackOneByOne();
        takenBackAnEnd();
        doneAgainAnEnd();
        untilAMoveIsMade();
        clocksToo();
        setByHandForgets();
        setByHandForgetsThirdTimes();
        givingUpIsNoMove();
        givingUpKeepsCounts();
        moveNumbers();
        backCounts();
        backRefuses();
        againCounts();
        againRefuses();
        resignReturnsEnd();
        knocks();
    }

    private static void ended(String what, TaflHall hall, int end, int winner) {
        Checks.same(what + ": END", hall.of(2), end);
        Checks.same(what + ": the side that won", hall.of(3), winner);
    }

    private static void theOtherSideIsToMove() {
        Document.section(3, "Behind each MOVE the other SIDE is to move, also with an END.");
        int[] due = {0, 0, 1, 1, 0, 1, 1};
        for (int i = 0; i < Halls.BY_END.length; i++) {
            Checks.same("END " + Halls.ENDS[i], Halls.BY_END[i].make().of(1), due[i]);
        }
    }

    private static void goesOnUntil() {
        Document.section(3, "A GAME goes on (END 0) until");
        for (int i = 0; i < Halls.BY_END.length; i++) {
            ended("hall " + i, Halls.BY_END[i].make(), Halls.ENDS[i], Halls.WINNERS[i]);
        }
        ended("as it begins", Halls.fresh(), 0, -1);
        ended("the empty board", Halls.empty(), 0, -1);
        ended("the full board", Halls.full(), 0, -1);
    }

    private static void theKingComes() {
        Document.section(3, "1 the SIDE 1 wins, as the KING comes to where it is safe");
        for (int rules = 0; rules < 16; rules++) {
            for (int goal = 0; goal < 49; goal++) {
                int start = goal % 7 == 3 ? goal - goal % 7 + 2 : goal - goal % 7 + 3;
                TaflHall hall = Checks.hall(rules, 1, NONE, NONE, NONE, NONE, NONE, NONE, NONE);
                hall.put(start, 3);
                int attacker = goal < 35 ? 38 : 10;
                hall.put(attacker, 1);
                hall.move(start, goal, 0);
                boolean safe = rules >= 8 ? Halls.isEdge(goal) : Halls.isCorner(goal);
                ended("on " + goal + " by rules " + rules, hall, safe ? 1 : 0, safe ? 1 : -1);
            }
        }
    }

    private static void theKingWasSetThere() {
        Document.section(3, "(a KING that was set there has not come)");
        TaflHall hall = Checks.hall(0, 1, "K......", NONE, ".d.....", NONE, ".a.....", NONE, NONE);
        ended("set on a corner", hall, 0, -1);
        hall.move(15, 16, 0);
        ended("a defender moves", hall, 0, -1);
        hall.move(29, 30, 0);
        ended("an attacker moves", hall, 0, -1);
        hall.move(0, 1, 0);
        ended("the king leaves", hall, 0, -1);
        hall.move(30, 31, 0);
        hall.move(1, 0, 0);
        ended("the king comes back", hall, 1, 1);
        TaflHall across = Checks.hall(0, 1, "K......", NONE, NONE, NONE, ".a.....", NONE, NONE);
        across.move(0, 6, 0);
        ended("from a corner to another", across, 1, 1);
        TaflHall along = Checks.hall(8, 1, "..K....", NONE, NONE, NONE, ".a.....", NONE, NONE);
        ended("set at the edge", along, 0, -1);
        along.move(2, 3, 0);
        ended("along the edge", along, 1, 1);
        TaflHall others = Checks.hall(8, 1, NONE, ".d.....", NONE, "...K...", ".a.....", NONE, NONE);
        others.move(8, 1, 0);
        ended("a defender at the edge", others, 0, -1);
        others.move(29, 28, 0);
        ended("an attacker at the edge", others, 0, -1);
    }

    private static void theKingIsCaptured() {
        Document.section(3, "2 the SIDE 0 wins, as the KING is captured");
        ended("captured", Halls.kingCaptured(), 2, 0);
        TaflHall gone = Checks.hall(0, 0, "..a....", NONE, "...da..", NONE, "....d..", NONE, NONE);
        gone.move(2, 16, 0);
        ended("a defender captured where there is no king", gone, 0, -1);
        TaflHall two = Checks.hall(0, 0, "..a....", NONE, "ad.Ka..", NONE, NONE, ".d.....", NONE);
        two.move(2, 16, 0);
        ended("with a defender at once", two, 2, 0);
        TaflHall strong = Checks.hall(1, 0, NONE, "..a....", ".aKa...", NONE, NONE, ".d.....", "..a....");
        strong.move(44, 23, 0);
        ended("a strong one", strong, 2, 0);
    }

    private static void noMoveByNoPiece() {
        Document.section(3, "3 the SIDE that is to move has no MOVE, and loses");
        ended("the side 1 has no piece", Halls.noMove(), 3, 0);
        TaflHall attackers = Checks.hall(0, 1, NONE, NONE, ".d.....", NONE, NONE, NONE, NONE);
        attackers.move(15, 16, 0);
        ended("the side 0 has no piece", attackers, 3, 1);
        TaflHall last = Checks.hall(0, 1, "..d....", NONE, "...ad..", NONE, NONE, NONE, NONE);
        last.move(2, 16, 0);
        ended("its last piece was captured", last, 3, 1);
        TaflHall defender = Checks.hall(0, 0, "..a....", NONE, "...da..", NONE, NONE, NONE, NONE);
        defender.move(2, 16, 0);
        ended("its last defender was captured", defender, 3, 0);
    }

    private static void noMoveByBlockedPieces() {
        Document.section(3, "3 the SIDE that is to move has no MOVE, and loses");
        TaflHall attackers = Checks.hall(0, 1, ".ad....", NONE, ".d.....", NONE, NONE, NONE, NONE);
        attackers.move(15, 8, 0);
        ended("beside a corner, which is not for it", attackers, 3, 1);
        TaflHall oneMove = Checks.hall(0, 1, ".ad....", NONE, "..d....", NONE, NONE, NONE, NONE);
        oneMove.move(16, 15, 0);
        Checks.same("one move is left", oneMove.of(11), 1);
        ended("one move is left", oneMove, 0, -1);
        TaflHall king = Checks.hall(1, 0, "..aK...", "...aa..", NONE, NONE, NONE, NONE, NONE);
        king.move(11, 4, 0);
        ended("a king that cannot move", king, 3, 0);
        TaflHall corner = Checks.hall(1, 0, ".K.a...", ".a.....", NONE, NONE, NONE, NONE, NONE);
        corner.move(3, 2, 0);
        Checks.same("the king may go to the corner", corner.of(11), 1);
        ended("the king may go to the corner", corner, 0, -1);
        TaflHall throne = Checks.hall(1, 0, NONE, NONE, "..a...a", ".aK....", "..a....", NONE, NONE);
        throne.put(25, 1);
        throne.move(20, 19, 0);
        Checks.same("the king may go to the throne", throne.of(11), 1);
        ended("the king may go to the throne", throne, 0, -1);
    }

    private static void noMoveOfASideSetByHand() {
        Document.section(3, "Looked at behind each MOVE");
        TaflHall hall = Checks.hall(0, 0, NONE, ".d.....", NONE, NONE, NONE, NONE, NONE);
        Checks.same("no move", hall.of(11), 0);
        ended("set by hand is not looked at", hall, 0, -1);
        Checks.same("and goes on", hall.resign(), 5);
        TaflHall taken = Checks.hall(0, 0, NONE, ".a.....", NONE, NONE, NONE, NONE, NONE);
        taken.side(1);
        ended("nor by the side alone", taken, 0, -1);
    }

    private static void theThirdTime() {
        Document.section(3, "is there for the third time");
        TaflHall hall = Halls.shuttle();
        Checks.same("once", hall.of(9), 1);
        for (int time = 2; time <= 3; time++) {
            hall.move(8, 9, 0);
            ended("one move", hall, 0, -1);
            hall.move(39, 40, 0);
            hall.move(9, 8, 0);
            ended("three moves", hall, 0, -1);
            hall.move(40, 39, 0);
            Checks.same("of(9)", hall.of(9), time);
            ended("time " + time, hall, time == 3 ? 4 : 0, -1);
        }
        TaflHall begun = new TaflHall();
        for (int i = 0; i < 2; i++) {
            begun.move(3, 4, 0);
            begun.move(17, 18, 0);
            begun.move(4, 3, 0);
            ended("as it begins", begun, 0, -1);
            begun.move(18, 17, 0);
        }
        ended("as it begins, for the third time", begun, 4, -1);
    }

    private static void theThirdTimeOfTheBoardThatWasSet() {
        Document.section(3, "since it was set");
        TaflHall hall = Halls.shuttle();
        Checks.same("the board that was set was there", hall.of(9), 1);
        Halls.round(hall);
        Halls.round(hall);
        ended("it counts", hall, 4, -1);
        // Here the board that comes again is not the one that was set, but the one behind the first move.
        TaflHall later = Checks.hall(0, 0, NONE, NONE, ".a.....", NONE, NONE, "....d..", NONE);
        later.move(15, 8, 0);
        for (int time = 2; time <= 3; time++) {
            ended("not yet", later, 0, -1);
            later.move(39, 40, 0);
            later.move(8, 9, 0);
            later.move(40, 39, 0);
            later.move(9, 8, 0);
            Checks.same("of(9)", later.of(9), time);
        }
        ended("the third time", later, 4, -1);
    }

    private static void theThirdTimeWithTheSameSide() {
        Document.section(3, "with the same SIDE to move");
        // The attacker takes one move there and two back, so that the same board comes with the other side to move.
        TaflHall hall = Halls.shuttle();
        hall.move(8, 10, 0);
        hall.move(39, 40, 0);
        hall.move(10, 9, 0);
        hall.move(40, 39, 0);
        hall.move(9, 8, 0);
        Checks.same("the same squares, the other side", hall.of(9), 1);
        hall.move(39, 40, 0);
        hall.move(8, 9, 0);
        hall.move(40, 39, 0);
        hall.move(9, 8, 0);
        Checks.same("twice with the side 1 to move, once with the side 0", hall.of(9), 2);
        ended("three times in all", hall, 0, -1);
    }

    private static void theThirdTimeSinceChangedByHand() {
        Document.section(3, "(of those that were there since it was set, begun or changed by hand");
        Checks.Use[] changes = {hall -> hall.side(0), hall -> hall.put(0, 0), hall -> hall.put(8, 1)};
        for (Checks.Use change : changes) {
            TaflHall hall = Halls.shuttle();
            Halls.round(hall);
            change.on(hall);
            Checks.same("of(9)", hall.of(9), 1);
            Halls.round(hall);
            ended("three times, but twice since then", hall, 0, -1);
            Halls.round(hall);
            ended("the third time since then", hall, 4, -1);
        }
    }

    private static void theThirdTimeSinceBegun() {
        Document.section(3, "since it was set, begun or changed by hand");
        TaflHall hall = new TaflHall();
        for (int i = 0; i < 4; i++) {
            hall.begin(i % 2);
            Checks.same("once", hall.of(9), 1);
            hall.move(3, 4, 0);
            hall.move(17, 18, 0);
            hall.move(4, 3, 0);
            hall.move(18, 17, 0);
            Checks.same("twice", hall.of(9), 2);
            ended("twice since it was begun", hall, 0, -1);
        }
    }

    private static void theThirdTimeWithoutWhatWasTakenBack() {
        Document.section(3, "and were not taken back");
        TaflHall hall = Halls.shuttle();
        Halls.round(hall);
        for (int i = 0; i < 4; i++) {
            hall.back();
        }
        Checks.same("taken back", hall.of(9), 1);
        Halls.round(hall);
        Checks.same("twice", hall.of(9), 2);
        ended("twice", hall, 0, -1);
        Halls.round(hall);
        ended("the third time", hall, 4, -1);
        hall.back();
        hall.again();
        Checks.same("done again", hall.of(9), 3);
        ended("done again", hall, 4, -1);
    }

    private static void theOtherOneWins() {
        Document.section(3, "5 a SIDE lost by its clock, or gave up: the other one wins");
        ended("the clock of the side 0", Halls.lostByClock(), 5, 1);
        TaflHall clock = new TaflHall();
        clock.move(3, 4, 0);
        clock.move(17, 18, 2401);
        ended("the clock of the side 1", clock, 5, 0);
        TaflHall first = new TaflHall();
        first.resign();
        ended("the side 0 gave up", first, 5, 1);
        TaflHall second = new TaflHall();
        second.side(1);
        second.resign();
        ended("the side 1 gave up", second, 5, 0);
        Checks.same("who gave up is still to move", second.of(1), 1);
    }

    private static final String IN_THE_ORDER = "Looked at behind each MOVE in the order 5 (by the clock), 1, 2, 4, 3.";

    private static void clockAheadOfTheKingsSafety() {
        Document.section(3, IN_THE_ORDER);
        for (int quarters = 2400; quarters <= 2401; quarters++) {
            TaflHall hall = Checks.hall(0, 1, "...K...", NONE, NONE, NONE, ".a.....", NONE, NONE);
            hall.move(3, 0, quarters);
            ended("safe in " + quarters, hall, quarters == 2400 ? 1 : 5, quarters == 2400 ? 1 : 0);
            Checks.same("he came all the same", hall.of(8), 0);
        }
    }

    private static void clockAheadOfTheKingsCapture() {
        Document.section(3, IN_THE_ORDER);
        for (int quarters = 2400; quarters <= 2401; quarters++) {
            TaflHall hall = Checks.hall(0, 0, "..a....", NONE, "...Ka..", NONE, NONE, ".d.....", NONE);
            Checks.same("captured", hall.move(2, 16, quarters), 1);
            ended("captured in " + quarters, hall, quarters == 2400 ? 2 : 5, quarters == 2400 ? 0 : 1);
            Checks.same("no king", hall.of(8), -1);
        }
    }

    private static void clockAheadOfTheThirdTime() {
        Document.section(3, IN_THE_ORDER);
        // The side 1 made three moves of no time, each of which gave it 2.5 seconds: 30 quarters more.
        for (int quarters = 2430; quarters <= 2431; quarters++) {
            TaflHall hall = Halls.even();
            hall.back();
            hall.move(40, 39, quarters);
            Checks.same("of(9)", hall.of(9), 3);
            ended("the third time in " + quarters, hall, quarters == 2430 ? 4 : 5, quarters == 2430 ? -1 : 0);
        }
    }

    private static void clockAheadOfNoMove() {
        Document.section(3, IN_THE_ORDER);
        for (int quarters = 2400; quarters <= 2401; quarters++) {
            TaflHall hall = Checks.hall(0, 0, NONE, NONE, ".a.....", NONE, NONE, NONE, NONE);
            hall.move(15, 16, quarters);
            Checks.same("no move", hall.of(11), 0);
            ended("no move in " + quarters, hall, quarters == 2400 ? 3 : 5, quarters == 2400 ? 0 : 1);
        }
    }

    private static void safetyAheadOfTheThirdTime() {
        Document.section(3, IN_THE_ORDER);
        // A king that was set on a corner leaves it, and comes back to a board that then is there for the third time.
        TaflHall hall = Checks.hall(0, 0, "K......", NONE, ".a.....", NONE, NONE, "....d..", NONE);
        hall.move(15, 16, 0);
        hall.move(39, 40, 0);
        hall.move(16, 15, 0);
        hall.move(40, 39, 0);
        Checks.same("twice", hall.of(9), 2);
        hall.move(15, 16, 0);
        hall.move(0, 1, 0);
        hall.move(16, 15, 0);
        hall.move(1, 0, 0);
        Checks.same("the third time", hall.of(9), 3);
        ended("he came", hall, 1, 1);
    }

    private static void safetyAheadOfNoMove() {
        Document.section(3, IN_THE_ORDER);
        TaflHall hall = Checks.hall(0, 1, "...K...", NONE, NONE, NONE, NONE, NONE, NONE);
        hall.move(3, 0, 0);
        Checks.same("no move", hall.of(11), 0);
        ended("safe", hall, 1, 1);
    }

    private static void captureAheadOfNoMove() {
        Document.section(3, IN_THE_ORDER);
        TaflHall hall = Checks.hall(0, 0, "..a....", NONE, "...Ka..", NONE, NONE, NONE, NONE);
        hall.move(2, 16, 0);
        Checks.same("no move", hall.of(11), 0);
        ended("captured", hall, 2, 0);
    }

    private static void clocksAtFirst() {
        Document.section(3, "each SIDE has a TIME in seconds (double; 600.0 at first)");
        Checks.same("time(0)", Halls.fresh().time(0), 600.0);
        Checks.same("time(1)", Halls.fresh().time(1), 600.0);
    }

    private static void clocksInThisOrder() {
        Document.section(3, "TIME is TIME - quarters * 0.25 + 2.5 (in this order)");
        for (int quarters : new int[] {0, 1, 9, 10, 11, 2399, 2400}) {
            TaflHall hall = new TaflHall();
            hall.move(3, 4, quarters);
            Checks.same("time(0) behind " + quarters, hall.time(0), 600.0 - quarters * 0.25 + 2.5);
            Checks.same("time(1) stays", hall.time(1), 600.0);
            hall.move(17, 18, quarters);
            Checks.same("time(1) behind " + quarters, hall.time(1), 600.0 - quarters * 0.25 + 2.5);
        }
        // What a move gives does not help that very move.
        TaflHall hall = new TaflHall();
        hall.move(3, 4, 2405);
        ended("2.5 seconds are given too late", hall, 5, 1);
    }

    private static void clocksAtZeroAndBelow() {
        Document.section(3, "if TIME - quarters * 0.25 is below 0.0, the SIDE has lost");
        int[] quarters = {2399, 2400, 2401, 4000};
        double[] times = {2.75, 2.5, -0.25, -400.0};
        for (int i = 0; i < quarters.length; i++) {
            TaflHall first = new TaflHall();
            first.move(3, 4, quarters[i]);
            ended("the side 0 in " + quarters[i], first, i < 2 ? 0 : 5, i < 2 ? -1 : 1);
            Checks.same("its time", first.time(0), times[i]);
            TaflHall second = new TaflHall();
            second.move(3, 4, 0);
            second.move(17, 18, quarters[i]);
            ended("the side 1 in " + quarters[i], second, i < 2 ? 0 : 5, i < 2 ? -1 : 0);
            Checks.same("its time", second.time(1), times[i]);
        }
        TaflHall again = new TaflHall();
        again.move(3, 4, 2400);
        again.move(17, 18, 2400);
        again.move(4, 3, 10);
        ended("at 0.0 once more", again, 0, -1);
        again.move(18, 17, 11);
        ended("a quarter below", again, 5, 0);
        Checks.same("its time", again.time(1), -0.25);
    }

    private static void clocksStayBelow() {
        Document.section(3, "the SIDE has lost, and TIME stays that");
        TaflHall hall = Halls.lostByClock();
        Checks.same("nothing is given", hall.time(0), -400.0);
        hall.side(0);
        Checks.same("set by hand, it stays", hall.time(0), -400.0);
        hall.move(4, 3, 0);
        ended("a move of no time, below 0.0 already", hall, 5, 1);
        Checks.same("nothing is given", hall.time(0), -400.0);
        hall.side(0);
        hall.move(3, 4, 4000);
        Checks.same("further below", hall.time(0), -1400.0);
        hall.begin(0);
        Checks.same("begun anew", hall.time(0), 600.0);
    }

    private static void doneAllTheSame() {
        Document.section(3, "(the MOVE is done all the same)");
        TaflHall hall = Checks.hall(0, 0, "..a....", NONE, "...da..", NONE, "....d..", NONE, NONE);
        Checks.same("it captures", hall.move(2, 16, 4000), 1);
        Checks.same("it is there", hall.at(16), 1);
        Checks.same("the captured is gone", hall.at(17), 0);
        Checks.same("the other side is to move", hall.of(1), 1);
        Checks.same("it can be taken back", hall.of(4), 1);
        Checks.same("its text", hall.last(), "2-16x1");
        Checks.same("taken back", hall.back(), 0);
        ended("taken back", hall, 0, -1);
    }

    private static void takenBackOneByOne() {
        Document.section(3, "MOVES can be taken back, one by one");
        TaflHall hall = Halls.shuttle();
        String[] pictures = new String[5];
        int[] from = {8, 39, 9, 40};
        int[] to = {9, 40, 16, 41};
        for (int i = 0; i < 4; i++) {
            pictures[i] = Checks.rows(hall) + hall.of(1) + hall.last() + hall.of(4) + " " + hall.of(13);
            hall.move(from[i], to[i], 0);
        }
        for (int i = 3; i >= 0; i--) {
            Checks.same("moves that are left", hall.back(), i);
            Checks.same("the board behind " + i, Checks.rows(hall) + hall.of(1) + hall.last() + hall.of(4) + " "
                    + hall.of(13), pictures[i]);
        }
    }

    private static void takenBackAnEnd() {
        Document.section(3, "also the one by which the GAME ended");
        for (int i = 1; i <= 5; i++) {
            TaflHall hall = Halls.BY_END[i].make();
            int moves = hall.of(4);
            Checks.same("END " + i, hall.back(), moves - 1);
            ended("taken back", hall, 0, -1);
            Checks.same("the side that moved is to move", hall.of(1), 1 - Halls.BY_END[i].make().of(1));
        }
    }

    private static void doneAgainAnEnd() {
        Document.section(3, "and done again");
        for (int i = 1; i <= 5; i++) {
            TaflHall hall = Halls.BY_END[i].make();
            String before = Checks.picture(hall);
            hall.back();
            Checks.same("END " + i, hall.again(), 0);
            Checks.same("as it was", Checks.picture(hall), before);
            ended("done again", hall, i, Halls.WINNERS[i]);
        }
    }

    private static void untilAMoveIsMade() {
        Document.section(3, "until a MOVE is made (a like one, too)");
        TaflHall like = Halls.goingOn();
        Checks.same("one ahead", like.of(5), 1);
        like.move(4, 5, 3);
        Checks.same("a like one", like.of(5), 0);
        Checks.thrown("again()", IllegalStateException.class, like::again);
        TaflHall other = Halls.goingOn();
        other.back();
        Checks.same("two ahead", other.of(5), 2);
        other.move(17, 16, 0);
        Checks.same("another one", other.of(5), 0);
        other.back();
        Checks.same("only that one", other.of(5), 1);
        other.again();
        Checks.same("is done again", other.last(), "17-16");
        Checks.thrown("again()", IllegalStateException.class, other::again);
        TaflHall refused = Halls.goingOn();
        Checks.thrown("a refused one", IllegalArgumentException.class, () -> refused.move(4, 6, 0));
        Checks.same("is not made", refused.again(), 0);
    }

    private static void clocksToo() {
        Document.section(3, "CLOCKS, too");
        TaflHall hall = new TaflHall();
        hall.move(3, 4, 40);
        hall.move(17, 18, 4000);
        hall.back();
        Checks.same("time(1) taken back", hall.time(1), 600.0);
        Checks.same("time(0) of the move ahead of it", hall.time(0), 592.5);
        hall.back();
        Checks.same("time(0) taken back", hall.time(0), 600.0);
        hall.again();
        Checks.same("time(0) done again", hall.time(0), 592.5);
        Checks.same("time(1) not yet", hall.time(1), 600.0);
        hall.again();
        Checks.same("time(1) done again", hall.time(1), -400.0);
    }

    private static void setByHandForgets() {
        Document.section(3, "To set a BOARD by hand forgets MOVES (also those that were taken back, "
                + "and also if nothing changes by it)");
        Checks.Use[] settings = {hall -> hall.put(0, 0), hall -> hall.put(24, 3), hall -> hall.put(48, 0),
            hall -> hall.side(hall.of(1)), hall -> hall.side(1), TaflHall::clear};
        for (Checks.Use setting : settings) {
            TaflHall hall = new TaflHall();
            hall.move(3, 4, 0);
            hall.move(17, 18, 0);
            hall.back();
            setting.on(hall);
            int[] numbers = {4, 5, 12, 13};
            int[] due = {0, 0, 0, -1};
            for (int i = 0; i < numbers.length; i++) {
                Checks.same("of(" + numbers[i] + ")", hall.of(numbers[i]), due[i]);
            }
            Checks.same("last()", hall.last(), "");
            Checks.thrown("back()", IllegalStateException.class, hall::back);
            Checks.thrown("again()", IllegalStateException.class, hall::again);
        }
        TaflHall empty = Halls.empty();
        empty.put(8, 1);
        empty.move(8, 9, 0);
        empty.put(9, 0);
        empty.clear();
        Checks.same("an empty board cleared", empty.of(4), 0);
    }

    private static void setByHandForgetsThirdTimes() {
        Document.section(3, "what BOARDS were there, and that somebody gave up");
        TaflHall hall = Halls.even();
        hall.put(0, 0);
        Checks.same("there once", hall.of(9), 1);
        ended("goes on", hall, 0, -1);
        Checks.same("a move is let", hall.move(8, 9, 0), 0);
        Checks.Use[] settings = {one -> one.put(0, 0), one -> one.side(1), TaflHall::clear};
        for (Checks.Use setting : settings) {
            TaflHall given = Halls.givenUp();
            setting.on(given);
            ended("nobody gave up", given, 0, -1);
            Checks.same("and one may give up again", given.resign(), 5);
            Checks.same("which is no knock", given.of(14), 0);
        }
    }

    private static void givingUpIsNoMove() {
        Document.section(3, "To give up is no MOVE; it cannot be taken back, "
                + "nor can MOVES ahead of it then be taken back or done again");
        TaflHall hall = Halls.goingOn();
        String rows = Checks.rows(hall);
        hall.resign();
        Checks.same("the board stays", Checks.rows(hall), rows);
        Checks.same("the side to move stays", hall.of(1), 0);
        Checks.same("time(0) stays", hall.time(0), Halls.goingOn().time(0));
        Checks.thrown("back()", IllegalStateException.class, hall::back);
        Checks.thrown("again()", IllegalStateException.class, hall::again);
        TaflHall first = new TaflHall();
        first.resign();
        Checks.thrown("back() of no move", IllegalStateException.class, first::back);
        ended("still given up", first, 5, 1);
    }

    private static void givingUpKeepsCounts() {
        Document.section(3, "(both are counted as before)");
        TaflHall hall = Halls.goingOn();
        hall.resign();
        Checks.same("of(4)", hall.of(4), 2);
        Checks.same("of(5)", hall.of(5), 1);
        Checks.same("of(9)", hall.of(9), 1);
        Checks.same("of(13)", hall.of(13), 1718);
        Checks.same("last()", hall.last(), "17-18");
        TaflHall all = Halls.goingOn();
        all.back();
        all.back();
        all.resign();
        Checks.same("none to take back", all.of(4), 0);
        Checks.same("three to do again", all.of(5), 3);
    }

    private static void moveNumbers() {
        Document.section(3, "A MOVE as a number: 100 times the SQUARE from which, and that to which it goes.");
        int[] from = {0, 1, 0, 42, 48, 48, 6};
        int[] to = {1, 0, 42, 0, 47, 6, 48};
        for (int i = 0; i < from.length; i++) {
            TaflHall hall = Halls.alone(0, from[i], 3);
            hall.move(from[i], to[i], 0);
            Checks.same(from[i] + " to " + to[i], hall.of(13), 100 * from[i] + to[i]);
            Checks.same(from[i] + " to " + to[i], hall.last(), from[i] + "-" + to[i]);
        }
    }

    private static void backCounts() {
        Document.promise(7, "Returns how many MOVES are left that can be taken back.");
        TaflHall hall = Halls.goingOn();
        Checks.same("one", hall.back(), 1);
        Checks.same("none", hall.back(), 0);
        hall.again();
        hall.move(17, 16, 0);
        Checks.same("one again", hall.back(), 1);
    }

    private static void backRefuses() {
        Document.promise(7, "Throws `IllegalStateException` if there is none, or somebody gave up");
        Checks.refusesState("a new object", Halls::fresh, TaflHall::back);
        Checks.refusesState("set by hand", Halls::empty, TaflHall::back);
        Checks.refusesState("all taken back", () -> taken(3), TaflHall::back);
        Checks.refusesState("given up", Halls::givenUp, TaflHall::back);
        Checks.refusesState("given up and a knock", GameEdges::knocked, TaflHall::back);
        Checks.same("one is left", taken(1).back(), 0);
    }

    private static TaflHall knocked() {
        TaflHall hall = Halls.givenUp();
        hall.resign();
        return hall;
    }

    /** Two moves, of which so many are taken back as there are. */
    private static TaflHall taken(int times) {
        TaflHall hall = Halls.goingOn();
        for (int i = 0; i < times && hall.of(4) > 0; i++) {
            hall.back();
        }
        return hall;
    }

    private static void againCounts() {
        Document.promise(8, "Returns how many more could be done again.");
        TaflHall hall = taken(2);
        Checks.same("two more", hall.again(), 2);
        Checks.same("one more", hall.again(), 1);
        Checks.same("none", hall.again(), 0);
        Checks.same("the last one", hall.last(), "4-5");
    }

    private static void againRefuses() {
        Document.promise(8, "Throws `IllegalStateException` if there is none, or somebody gave up");
        Checks.refusesState("a new object", Halls::fresh, TaflHall::again);
        Checks.refusesState("set by hand", Halls::empty, TaflHall::again);
        Checks.refusesState("none was taken back", Halls::even, TaflHall::again);
        Checks.refusesState("all done again", GameEdges::allDone, TaflHall::again);
        Checks.refusesState("given up", Halls::givenUp, TaflHall::again);
        Checks.refusesState("given up and a knock", GameEdges::knocked, TaflHall::again);
    }

    private static TaflHall allDone() {
        TaflHall hall = Halls.goingOn();
        hall.again();
        return hall;
    }

    private static void resignReturnsEnd() {
        Document.promise(9, "Returns END then.");
        for (int i = 0; i < Halls.BY_END.length; i++) {
            TaflHall hall = Halls.BY_END[i].make();
            int due = i == 0 ? 5 : Halls.ENDS[i];
            Checks.same("from END " + Halls.ENDS[i], hall.resign(), due);
            Checks.same("of(2)", hall.of(2), due);
        }
        Checks.same("on the empty board", Halls.empty().resign(), 5);
        Checks.same("without a move", Halls.full().resign(), 5);
    }

    private static void knocks() {
        Document.promise(9, "The SIDE that is to move gives up; with END not 0 that is a KNOCK.");
        for (int i = 0; i < Halls.BY_END.length; i++) {
            TaflHall hall = Halls.BY_END[i].make();
            int winner = i == 0 ? 1 - hall.of(1) : Halls.WINNERS[i];
            hall.resign();
            Checks.same("from END " + Halls.ENDS[i], hall.of(14), i == 0 ? 0 : 1);
            hall.resign();
            Checks.same("once more", hall.of(14), i == 0 ? 1 : 2);
            Checks.same("the side that won", hall.of(3), winner);
        }
        TaflHall ever = Halls.even();
        ever.resign();
        ever.back();
        Checks.same("a knock is not taken back", ever.of(14), 1);
        Checks.same("nor is it giving up", ever.of(2), 0);
        ever.again();
        ever.put(0, 0);
        ever.side(1);
        ever.clear();
        ever.begin(3);
        Checks.same("nor forgotten", ever.of(14), 1);
    }
}
