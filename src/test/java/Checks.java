/** Counts checks, prints each that fails, and holds the helpers that tests share. */
final class Checks {

    private static int done = 0;
    private static int wrong = 0;

    private Checks() {
    }

    /** A call of which an exception is expected. */
    interface Call {
        void run();
    }

    static void same(String what, Object got, Object due) {
        done++;
        if (!due.equals(got)) {
            wrong++;
            System.out.println(what + " answered " + got + ", due is " + due);
        }
    }

    static void thrown(String what, Class<?> due, Call call) {
        String got = "nothing";
        try {
            call.run();
        } catch (RuntimeException e) {
            got = e.getClass().getName();
        }
        same(what + " throws", got, due.getName());
    }

    /** The call throws just that and changes nothing, not even the moves that could be done again. */
    static void refused(String what, TaflHall hall, Class<?> due, Call call) {
        String before = picture(hall);
        thrown(what, due, call);
        same("the hall behind the refused " + what, picture(hall), before);
    }

    static void refusedSquare(String what, TaflHall hall, Call call) {
        refused(what, hall, IndexOutOfBoundsException.class, call);
    }

    static void refusedArgument(String what, TaflHall hall, Call call) {
        refused(what, hall, IllegalArgumentException.class, call);
    }

    static void refusedState(String what, TaflHall hall, Call call) {
        refused(what, hall, IllegalStateException.class, call);
    }

    /** A hall whose rows are as row() tells them ("x" is an empty square, too). */
    static TaflHall hall(int rules, int side, String... rows) {
        TaflHall hall = new TaflHall();
        hall.begin(rules);
        hall.clear();
        for (int square = 0; square < 49; square++) {
            int piece = Math.max(0, ".adK".indexOf(rows[square / 7].charAt(square % 7)));
            if (piece != 0) {
                hall.put(square, piece);
            }
        }
        hall.side(side);
        return hall;
    }

    static long set(int... squares) {
        long set = 0;
        for (int square : squares) {
            set |= 1L << square;
        }
        return set;
    }

    static String rows(TaflHall hall) {
        StringBuilder text = new StringBuilder();
        for (int row = 0; row < 7; row++) {
            text.append(hall.row(row)).append('/');
        }
        return text.toString();
    }

    static String picture(TaflHall hall) {
        StringBuilder text = new StringBuilder(rows(hall));
        for (int what = 0; what <= 14; what++) {
            text.append(hall.of(what)).append(' ');
        }
        return text.append(hall.key()).append(' ').append(hall.time(0)).append(' ').append(hall.time(1))
                .append(' ').append(hall.last()).append(' ').append(hall.digest()).toString();
    }

    static void finish() {
        System.out.println(done + " checks, " + wrong + " wrong");
        if (wrong != 0 || done == 0) {
            System.exit(1);
        }
    }
}
