/** A hall for the king's game on a board of seven by seven. */
public final class TaflHall {

    private static final int NONE = -1;
    private static final int WIDTH = 7;
    private static final int SQUARES = 49;
    private static final int DIRECTIONS = 4;

    private static final int EMPTY = 0;
    private static final int ATTACKER = 1;
    private static final int DEFENDER = 2;
    private static final int KING = 3;

    private static final int STRONG = 1;
    private static final int ARMED = 2;
    private static final int HOSTILE_THRONE = 4;
    private static final int SAFE_EDGE = 8;
    private static final int ALL_RULES = 15;

    private static final int GOES_ON = 0;
    private static final int KING_SAFE = 1;
    private static final int KING_CAPTURED = 2;
    private static final int NO_MOVE = 3;
    private static final int EVEN = 4;
    private static final int LOST_OR_GAVE_UP = 5;

    private static final int MOST_QUARTERS = 4000;
    private static final int LAST_OF = 14;
    private static final int STEPS_WITHOUT_A_WAY = 8;
    private static final int TIMES_UNTIL_EVEN = 3;
    private static final int FROM_FACTOR = 100;
    // From each direction one piece at most can come to a square: the next one that stands there.
    private static final int MOST_MOVES = SQUARES * DIRECTIONS;

    private static final long ALL = (1L << SQUARES) - 1L;
    private static final long TOP = (1L << WIDTH) - 1L;
    private static final long BOTTOM = TOP << 42;
    private static final long LEFT = 1L | 1L << 7 | 1L << 14 | 1L << 21 | 1L << 28 | 1L << 35 | 1L << 42;
    private static final long RIGHT = LEFT << 6;
    private static final long EDGE = TOP | BOTTOM | LEFT | RIGHT;
    private static final long THRONE = 1L << 24;
    private static final long CORNERS = 1L | 1L << 6 | 1L << 42 | 1L << 48;
    private static final long FIRST_ATTACKERS =
            1L << 3 | 1L << 10 | 1L << 21 | 1L << 22 | 1L << 26 | 1L << 27 | 1L << 38 | 1L << 45;
    private static final long FIRST_DEFENDERS = 1L << 17 | 1L << 23 | 1L << 25 | 1L << 31;

    private static final long DIGEST_START = 58300L;
    private static final long DIGEST_FACTOR = 31L;

    private final Outlook outlook = new Outlook();
    private Moment here = new Moment();
    private boolean gaveUp;
    private int knocks;

    /** Creates a hall with a board as it begins. */
    public TaflHall() {
        here.board.layOut();
    }

    // ---- what is chosen, set and done

    /** Chooses the rules and begins anew; returns the rules before. */
    public int begin(int rules) throws IllegalArgumentException {
        if (rules < 0 || rules > ALL_RULES) {
            throw new IllegalArgumentException("no such rules");
        }
        int before = here.board.rules;
        here = new Moment();
        here.board.rules = rules;
        here.board.layOut();
        gaveUp = false;
        return before;
    }

    /** Takes all pieces away; returns how many there were. */
    public int clear() {
        int before = Long.bitCount(here.board.occupied());
        boardByHand().sweep();
        return before;
    }

    /** Sets one square; returns what was there. */
    public int put(int square, int piece)
            throws IndexOutOfBoundsException, IllegalArgumentException, IllegalStateException {
        requireSquare(square);
        if (piece < EMPTY || piece > KING) {
            throw new IllegalArgumentException("no such piece");
        }
        long spot = 1L << square;
        if ((piece == ATTACKER || piece == DEFENDER) && (spot & (THRONE | CORNERS)) != 0L) {
            throw new IllegalArgumentException("only the king may be there");
        }
        if (piece == KING && (here.board.king & ~spot) != 0L) {
            throw new IllegalStateException("the king is on another square");
        }
        int before = here.board.pieceOn(spot);
        boardByHand().setPiece(spot, piece);
        return before;
    }

    /** Sets which side is to move; returns that before. */
    public int side(int side) throws IllegalArgumentException {
        requireSide(side);
        int before = here.board.toMove;
        boardByHand().toMove = side;
        return before;
    }

    /** Makes a move; returns how many pieces it captured. */
    public int move(int from, int to, int quarters)
            throws IndexOutOfBoundsException, IllegalArgumentException, IllegalStateException {
        requireSquare(from);
        requireSquare(to);
        if (quarters < 0 || quarters > MOST_QUARTERS) {
            throw new IllegalArgumentException("no such time");
        }
        if (!here.board.allows(1L << from, 1L << to)) {
            throw new IllegalArgumentException("no such move");
        }
        if (endNow() != GOES_ON) {
            throw new IllegalStateException("the game has ended");
        }
        here = here.follow(from, to, quarters);
        return here.taken;
    }

    /** Takes the last move back; returns how many are left. */
    public int back() throws IllegalStateException {
        Moment previous = here.previous;
        if (gaveUp || previous == null) {
            throw new IllegalStateException("no move to take back");
        }
        here = previous;
        return here.moves;
    }

    /** Does the move again that was taken back last; returns how many more there are. */
    public int again() throws IllegalStateException {
        Moment next = here.next;
        if (gaveUp || next == null) {
            throw new IllegalStateException("no move to do again");
        }
        here = next;
        return here.movesAhead();
    }

    /** The side that is to move gives up; returns how the game ended. */
    public int resign() {
        if (endNow() != GOES_ON) {
            knocks++;
        } else {
            gaveUp = true;
        }
        return endNow();
    }

    // ---- what one asks

    /** Returns the piece on a square. */
    public int at(int square) throws IndexOutOfBoundsException {
        requireSquare(square);
        return here.board.pieceOn(1L << square);
    }

    /** Returns a row as seven signs. */
    public String row(int row) throws IndexOutOfBoundsException {
        if (row < 0 || row >= WIDTH) {
            throw new IndexOutOfBoundsException("no such row");
        }
        StringBuilder text = new StringBuilder();
        for (int column = 0; column < WIDTH; column++) {
            text.append(here.board.signOf(1L << (row * WIDTH + column)));
        }
        return text.toString();
    }

    /** Returns the squares to which the piece on a square may go. */
    public long reach(int square) throws IndexOutOfBoundsException {
        requireSquare(square);
        return here.board.goalsOf(1L << square);
    }

    /** Returns the squares on which a piece would capture by a move. */
    public long takes(int from, int to) throws IndexOutOfBoundsException, IllegalArgumentException {
        requireSquare(from);
        requireSquare(to);
        if ((here.board.goalsOf(1L << from) & 1L << to) == 0L) {
            throw new IllegalArgumentException("the piece may not go there");
        }
        return outlook.captures(here.board, 1L << from, 1L << to);
    }

    /** Returns one of fifteen numbers that tell how the game stands. */
    public int of(int what) throws IllegalArgumentException {
        if (what < 0 || what > LAST_OF) {
            throw new IllegalArgumentException("no such number");
        }
        return numberOf(what);
    }

    /** Returns the key of the board. */
    public long key() {
        return here.board.keyNumber();
    }

    /** Returns the time of a side in seconds. */
    public double time(int side) throws IllegalArgumentException {
        requireSide(side);
        return here.timeOf(side);
    }

    /** Returns by how many whole seconds, 60 at most, the side 1 is ahead. */
    public double lead() {
        double gap = here.defendersTime - here.attackersTime;
        if (gap >= 60.0) {
            return 60.0;
        }
        return gap <= -60.0 ? -60.0 : (double) nearestWhole(gap);
    }

    /** Returns the last move that can be taken back as a text. */
    public String last() {
        if (here.previous == null) {
            return "";
        }
        StringBuilder text = new StringBuilder();
        text.append(here.from).append('-').append(here.to);
        if (here.taken > 0) {
            text.append('x').append(here.taken);
        }
        return text.toString();
    }

    /** Returns what the board is worth for the side 1. */
    public double worth() {
        return (double) here.board.fullValue();
    }

    // ---- what would be (nothing is changed)

    /** Returns in how many ways so many moves could follow. */
    public int ways(int depth) throws IllegalArgumentException {
        requireDepth(depth);
        return depth == 1 ? here.board.countMoves() : outlook.countPairs(here.board);
    }

    /** Returns the best move as a number. */
    public int best(int depth) throws IllegalArgumentException {
        requireDepth(depth);
        return outlook.bestMove(here.board, depth);
    }

    /** Returns the squares on which the side to move could capture, but for the king's. */
    public long threatened() {
        return outlook.threats(here.board);
    }

    /** Returns a checksum of all that can be asked. */
    public long digest() {
        long sum = DIGEST_START;
        for (int what = 0; what <= LAST_OF; what++) {
            sum = sum * DIGEST_FACTOR + (long) numberOf(what);
        }
        sum = sum * DIGEST_FACTOR + here.board.keyNumber();
        for (int square = 0; square < SQUARES; square++) {
            sum = sum * DIGEST_FACTOR + here.board.goalsOf(1L << square);
        }
        sum = sum * DIGEST_FACTOR + outlook.threats(here.board);
        sum = sum * DIGEST_FACTOR + (long) here.board.countMoves();
        sum = sum * DIGEST_FACTOR + (long) outlook.bestMove(here.board, 1);
        sum = sum * DIGEST_FACTOR + (long) (here.attackersTime * 4.0);
        sum = sum * DIGEST_FACTOR + (long) (here.defendersTime * 4.0);
        return sum * DIGEST_FACTOR + (long) (here.board.fullValue() * 64f);
    }

    private static void requireSquare(int square) {
        if (square < 0 || square >= SQUARES) {
            throw new IndexOutOfBoundsException("no such square");
        }
    }

    private static void requireSide(int side) {
        if (side != 0 && side != 1) {
            throw new IllegalArgumentException("no such side");
        }
    }

    private static void requireDepth(int depth) {
        if (depth != 1 && depth != 2) {
            throw new IllegalArgumentException("no such depth");
        }
    }

    private static long nearestWhole(double number) {
        long whole = (long) number;
        double rest = number - (double) whole;
        boolean odd = (whole & 1L) != 0L;
        if (rest > 0.5 || (rest == 0.5 && odd)) {
            return whole + 1L;
        }
        return rest < -0.5 || (rest == -0.5 && odd) ? whole - 1L : whole;
    }

    // A board set by hand starts a line of its own: what was before it is forgotten.
    private Board boardByHand() {
        Moment fresh = new Moment();
        fresh.board.copyFrom(here.board);
        fresh.attackersTime = here.attackersTime;
        fresh.defendersTime = here.defendersTime;
        here = fresh;
        gaveUp = false;
        return fresh.board;
    }

    private int endNow() {
        return gaveUp ? LOST_OR_GAVE_UP : here.end;
    }

    private int winnerNow() {
        return gaveUp ? 1 - here.board.toMove : here.winner();
    }

    private int numberOf(int what) {
        Board board = here.board;
        switch (what) {
            case 0: return board.rules;
            case 1: return board.toMove;
            case 2: return endNow();
            case 3: return winnerNow();
            case 4: return here.moves;
            case 5: return here.movesAhead();
            case 6: return Long.bitCount(board.attackers);
            case 7: return Long.bitCount(board.defenders);
            case 8: return board.kingSquare();
            case 9: return here.timesThere();
            case 10: return board.kingSteps();
            case 11: return board.countMoves();
            case 12: return here.takenInAll;
            case 13: return here.moveNumber();
            default: return knocks;
        }
    }

    /** A board, the side that is to move, and the rules; sets of squares throughout. */
    private static final class Board {
        int rules;
        int toMove;
        long attackers;
        long defenders;
        long king;

        void layOut() {
            attackers = FIRST_ATTACKERS;
            defenders = FIRST_DEFENDERS;
            king = THRONE;
            toMove = 0;
        }

        void sweep() {
            attackers = 0L;
            defenders = 0L;
            king = 0L;
            toMove = 0;
        }

        void copyFrom(Board other) {
            rules = other.rules;
            toMove = other.toMove;
            attackers = other.attackers;
            defenders = other.defenders;
            king = other.king;
        }

        // The keys of two boards may be alike by their wrapping around, so squares are compared.
        boolean isLike(Board other) {
            return attackers == other.attackers && defenders == other.defenders
                    && king == other.king && toMove == other.toMove;
        }

        boolean has(int rule) {
            return (rules & rule) != 0;
        }

        long occupied() {
            return attackers | defenders | king;
        }

        long ofSideToMove() {
            return toMove == 0 ? attackers : defenders | king;
        }

        long safeSpots() {
            return has(SAFE_EDGE) ? EDGE : CORNERS;
        }

        int pieceOn(long spot) {
            if ((attackers & spot) != 0L) {
                return ATTACKER;
            }
            if ((defenders & spot) != 0L) {
                return DEFENDER;
            }
            return (king & spot) != 0L ? KING : EMPTY;
        }

        char signOf(long spot) {
            switch (pieceOn(spot)) {
                case ATTACKER: return 'a';
                case DEFENDER: return 'd';
                case KING: return 'K';
                default: return (spot & (THRONE | CORNERS)) != 0L ? 'x' : '.';
            }
        }

        int kingSquare() {
            return king == 0L ? NONE : Long.bitCount(king - 1L);
        }

        void setPiece(long spot, int piece) {
            lift(spot);
            if (piece == ATTACKER) {
                attackers |= spot;
            } else if (piece == DEFENDER) {
                defenders |= spot;
            } else if (piece == KING) {
                king = spot;
            }
        }

        private void lift(long spots) {
            attackers &= ~spots;
            defenders &= ~spots;
            king &= ~spots;
        }

        long keyNumber() {
            long number = 1L;
            for (int square = 0; square < SQUARES; square++) {
                number = number * 5L + (long) pieceOn(1L << square);
            }
            return number * 5L + (long) toMove;
        }

        long goalsOf(long spot) {
            long occupied = occupied();
            if ((occupied & spot) == 0L) {
                return 0L;
            }
            long goals = slides(spot, ALL & ~occupied);
            return (king & spot) != 0L ? goals : goals & ~(THRONE | CORNERS);
        }

        boolean allows(long from, long to) {
            return (ofSideToMove() & from) != 0L && (goalsOf(from) & to) != 0L;
        }

        int countMoves() {
            long movers = ofSideToMove();
            int count = 0;
            for (int square = 0; square < SQUARES; square++) {
                long spot = 1L << square;
                if ((movers & spot) != 0L) {
                    count += Long.bitCount(goalsOf(spot));
                }
            }
            return count;
        }

        boolean bringsKingHome(long from, long to) {
            return (king & from) != 0L && (safeSpots() & to) != 0L;
        }

        /** Moves a piece, takes away what it captures, and returns that. */
        long play(long from, long to) {
            setPiece(to, pieceOn(from));
            lift(from);
            long captured = capturedBy(to);
            lift(captured);
            toMove = 1 - toMove;
            return captured;
        }

        private long capturedBy(long mover) {
            boolean attacking = (attackers & mover) != 0L;
            if ((king & mover) != 0L && !has(ARMED)) {
                return 0L;
            }
            long caught = attacking ? kingCaughtByFour(mover) : 0L;
            long prey = attacking ? preyOfAttackers() : attackers;
            long helpers = attacking ? attackers : defendersThatHelp();
            helpers |= hostileSpots();
            for (int direction = 0; direction < DIRECTIONS; direction++) {
                long victim = beside(mover, direction) & prey;
                if ((beside(victim, direction) & helpers) != 0L) {
                    caught |= victim;
                }
            }
            return caught;
        }

        private long preyOfAttackers() {
            return has(STRONG) ? defenders : defenders | king;
        }

        private long defendersThatHelp() {
            return has(ARMED) ? defenders | king : defenders;
        }

        private long hostileSpots() {
            long hostile = has(HOSTILE_THRONE) ? CORNERS | THRONE : CORNERS;
            return hostile & ~occupied();
        }

        private long kingCaughtByFour(long mover) {
            if (!has(STRONG)) {
                return 0L;
            }
            boolean besideMover = false;
            for (int direction = 0; direction < DIRECTIONS; direction++) {
                long neighbour = beside(king, direction);
                if ((neighbour & (attackers | THRONE)) == 0L) {
                    return 0L;
                }
                if (neighbour == mover) {
                    besideMover = true;
                }
            }
            return besideMover ? king : 0L;
        }

        int kingSteps() {
            if (king == 0L) {
                return NONE;
            }
            long open = ALL & ~(attackers | defenders);
            long safe = safeSpots();
            long visited = king;
            for (int steps = 0; steps < SQUARES; steps++) {
                if ((visited & safe) != 0L) {
                    return steps;
                }
                long wider = visited | slides(visited, open);
                if (wider == visited) {
                    return NONE;
                }
                visited = wider;
            }
            return NONE;
        }

        /** The light of the board. */
        float lightValue() {
            if (king == 0L) {
                return -32f;
            }
            if ((king & safeSpots()) != 0L) {
                return 32f;
            }
            float freedom = 1f * (float) Long.bitCount(slides(king, ALL & ~occupied())) / 8f;
            return 0.5f * (float) Long.bitCount(defenders) - 0.25f * (float) Long.bitCount(attackers) + freedom;
        }

        /** The worth of the board. */
        float fullValue() {
            float light = lightValue();
            if (king == 0L || (king & safeSpots()) != 0L) {
                return light;
            }
            int steps = kingSteps();
            return light - 0.125f * (float) (steps == NONE ? STEPS_WITHOUT_A_WAY : steps);
        }

        // All squares of a set slide at once, which is as good as one by one: they only look for open squares.
        private static long slides(long from, long open) {
            long reached = 0L;
            for (int direction = 0; direction < DIRECTIONS; direction++) {
                long front = from;
                for (int step = 1; step < WIDTH && front != 0L; step++) {
                    front = beside(front, direction) & open;
                    reached |= front;
                }
            }
            return reached;
        }

        // Squares beyond the edge fall out of the set.
        private static long beside(long spots, int direction) {
            switch (direction) {
                case 0: return spots >>> WIDTH;
                case 1: return (spots & ~LEFT) >>> 1;
                case 2: return (spots & ~RIGHT) << 1;
                default: return (spots & ~BOTTOM) << WIDTH;
            }
        }
    }

    /** How the game stood at one time: the links of a chain that moves go along and back. */
    private static final class Moment {
        final Board board = new Board();
        double attackersTime = 600.0;
        double defendersTime = 600.0;
        int end;
        int from;
        int to;
        int taken;
        int takenInAll;
        int moves;
        Moment previous;
        Moment next;

        /** Makes a move from here; what was taken back is forgotten. */
        Moment follow(int start, int goal, int quarters) {
            Moment fresh = new Moment();
            fresh.previous = this;
            next = fresh;
            fresh.from = start;
            fresh.to = goal;
            fresh.moves = moves + 1;
            fresh.board.copyFrom(board);
            long captured = fresh.board.play(1L << start, 1L << goal);
            fresh.taken = Long.bitCount(captured);
            fresh.takenInAll = takenInAll + fresh.taken;
            boolean inTime = fresh.runClock(this, quarters);
            if (!inTime) {
                fresh.end = LOST_OR_GAVE_UP;
            } else if (board.bringsKingHome(1L << start, 1L << goal)) {
                fresh.end = KING_SAFE;
            } else if ((captured & board.king) != 0L) {
                fresh.end = KING_CAPTURED;
            } else {
                fresh.end = fresh.endByStanding();
            }
            return fresh;
        }

        private boolean runClock(Moment before, int quarters) {
            int mover = before.board.toMove;
            double rest = before.timeOf(mover) - (double) quarters * 0.25;
            boolean inTime = rest >= 0.0;
            double after = inTime ? rest + 2.5 : rest;
            attackersTime = mover == 0 ? after : before.attackersTime;
            defendersTime = mover == 1 ? after : before.defendersTime;
            return inTime;
        }

        private int endByStanding() {
            if (timesThere() >= TIMES_UNTIL_EVEN) {
                return EVEN;
            }
            return board.countMoves() == 0 ? NO_MOVE : GOES_ON;
        }

        double timeOf(int which) {
            return which == 0 ? attackersTime : defendersTime;
        }

        int winner() {
            switch (end) {
                case KING_SAFE: return 1;
                case KING_CAPTURED: return 0;
                case NO_MOVE: return 1 - board.toMove;
                // The side whose time ran out has moved all the same, so the winner is to move.
                case LOST_OR_GAVE_UP: return board.toMove;
                default: return NONE;
            }
        }

        int timesThere() {
            int times = 0;
            for (Moment moment = this; moment != null; moment = moment.previous) {
                if (board.isLike(moment.board)) {
                    times++;
                }
            }
            return times;
        }

        int movesAhead() {
            int count = 0;
            for (Moment moment = next; moment != null; moment = moment.next) {
                count++;
            }
            return count;
        }

        int moveNumber() {
            return previous == null ? NONE : from * FROM_FACTOR + to;
        }
    }

    /** The moves of the side to move, the smallest number first; its row is used again and again. */
    private static final class MoveRow {
        private final int[] numbers = new int[MOST_MOVES];
        private int count;

        void fill(Board board) {
            count = 0;
            long movers = board.ofSideToMove();
            for (int square = 0; square < SQUARES; square++) {
                if ((movers & 1L << square) != 0L) {
                    addGoals(square, board.goalsOf(1L << square));
                }
            }
        }

        private void addGoals(int square, long goals) {
            for (int goal = 0; goal < SQUARES; goal++) {
                if ((goals & 1L << goal) != 0L && count >= 0 && count < numbers.length) {
                    numbers[count] = square * FROM_FACTOR + goal;
                    count++;
                }
            }
        }

        int size() {
            return count;
        }

        int numberAt(int index) {
            return index >= 0 && index < numbers.length ? numbers[index] : 0;
        }

        long fromAt(int index) {
            return 1L << (numberAt(index) / FROM_FACTOR);
        }

        long toAt(int index) {
            return 1L << (numberAt(index) % FROM_FACTOR);
        }
    }

    /** What would be behind one move or two, tried on boards of its own. */
    private static final class Outlook {
        private final Board first = new Board();
        private final Board second = new Board();
        private final MoveRow moves = new MoveRow();
        private final MoveRow replies = new MoveRow();

        long captures(Board board, long from, long to) {
            first.copyFrom(board);
            return first.play(from, to);
        }

        long threats(Board board) {
            long captured = 0L;
            moves.fill(board);
            for (int i = 0; i < moves.size(); i++) {
                captured |= captures(board, moves.fromAt(i), moves.toAt(i));
            }
            return captured & ~board.king;
        }

        int countPairs(Board board) {
            int count = 0;
            moves.fill(board);
            for (int i = 0; i < moves.size(); i++) {
                long captured = captures(board, moves.fromAt(i), moves.toAt(i));
                boolean over = (captured & board.king) != 0L
                        || board.bringsKingHome(moves.fromAt(i), moves.toAt(i));
                count += over ? 0 : first.countMoves();
            }
            return count;
        }

        int bestMove(Board board, int depth) {
            int best = NONE;
            float bestValue = 0f;
            moves.fill(board);
            for (int i = 0; i < moves.size(); i++) {
                float value = searchValue(board, moves.fromAt(i), moves.toAt(i), depth);
                if (best == NONE || isBetter(value, bestValue, board.toMove)) {
                    best = moves.numberAt(i);
                    bestValue = value;
                }
            }
            return best;
        }

        private float searchValue(Board board, long from, long to, int depth) {
            first.copyFrom(board);
            first.play(from, to);
            if (depth == 1) {
                return first.fullValue();
            }
            float bestValue = first.lightValue();
            if (first.king == 0L || board.bringsKingHome(from, to)) {
                return bestValue;
            }
            replies.fill(first);
            for (int i = 0; i < replies.size(); i++) {
                second.copyFrom(first);
                second.play(replies.fromAt(i), replies.toAt(i));
                float value = second.lightValue();
                if (i == 0 || isBetter(value, bestValue, first.toMove)) {
                    bestValue = value;
                }
            }
            return bestValue;
        }

        private static boolean isBetter(float value, float other, int forSide) {
            return forSide == 1 ? value > other : value < other;
        }
    }
}
