/** Counts checks, prints each that fails, and holds the helpers that tests share. */
final class Checks {

    private static int done = 0;
    private static int wrong = 0;
    private static String subject = "";

    private Checks() {
    }

    /** A call of which an exception is expected. */
    interface Call {
        void run();
    }

    /** Makes a hall, each time a like one. */
    interface Maker {
        TaflHall make();
    }

    /** A call on a hall. */
    interface Use {
        void on(TaflHall hall);
    }

    /** What the checks that follow are of. */
    static void of(String words) {
        subject = words + ": ";
    }

    static void same(String what, Object got, Object due) {
        done++;
        if (!due.equals(got)) {
            wrong++;
            System.out.println(subject + what + " answered " + got + ", due is " + due);
        }
    }

    static void thrown(String what, Class<?> due, Call call) {
        String got = "nothing";
        try {
            call.run();
        } catch (RuntimeException e) {
            got = e.getClass().getName();
        }
        same(what + " throws", got, due.getName());
    }

    /** The call throws just that and changes nothing, not even the moves that could be done again. */
    static void refused(String what, TaflHall hall, Class<?> due, Call call) {
        String before = glimpse(hall);
        thrown(what, due, call);
        same("the hall behind the refused " + what, glimpse(hall), before);
    }

    // A hall is asked 512 times at most, so what is looked at often is looked at by few calls.
    private static String glimpse(TaflHall hall) {
        return hall.digest() + " " + hall.key() + " " + hall.last() + " " + hall.lead() + " " + hall.of(4) + " "
                + hall.of(5);
    }

    /** The call throws just that; the hall is then like one without that call, at all of its moves too. */
    static void refuses(String what, Class<?> due, Maker maker, Use use) {
        TaflHall hall = maker.make();
        thrown(what, due, () -> use.on(hall));
        same("the hall behind the refused " + what, story(hall), story(maker.make()));
    }

    static void refusesSquare(String what, Maker maker, Use use) {
        refuses(what, IndexOutOfBoundsException.class, maker, use);
    }

    static void refusesArgument(String what, Maker maker, Use use) {
        refuses(what, IllegalArgumentException.class, maker, use);
    }

    static void refusesState(String what, Maker maker, Use use) {
        refuses(what, IllegalStateException.class, maker, use);
    }

    static void refusedSquare(String what, TaflHall hall, Call call) {
        refused(what, hall, IndexOutOfBoundsException.class, call);
    }

    static void refusedArgument(String what, TaflHall hall, Call call) {
        refused(what, hall, IllegalArgumentException.class, call);
    }

    static void refusedState(String what, TaflHall hall, Call call) {
        refused(what, hall, IllegalStateException.class, call);
    }

    /** A hall whose rows are as row() tells them ("x" is an empty square, too). */
    static TaflHall hall(int rules, int side, String... rows) {
        TaflHall hall = new TaflHall();
        hall.begin(rules);
        hall.clear();
        for (int square = 0; square < 49; square++) {
            int piece = Math.max(0, ".adK".indexOf(rows[square / 7].charAt(square % 7)));
            if (piece != 0) {
                hall.put(square, piece);
            }
        }
        hall.side(side);
        return hall;
    }

    static long set(int... squares) {
        long set = 0;
        for (int square : squares) {
            set |= 1L << square;
        }
        return set;
    }

    static String rows(TaflHall hall) {
        StringBuilder text = new StringBuilder();
        for (int row = 0; row < 7; row++) {
            text.append(hall.row(row)).append('/');
        }
        return text.toString();
    }

    static String picture(TaflHall hall) {
        StringBuilder text = new StringBuilder(rows(hall));
        for (int what = 0; what <= 14; what++) {
            text.append(hall.of(what)).append(' ');
        }
        return text.append(hall.key()).append(' ').append(hall.time(0)).append(' ').append(hall.time(1))
                .append(' ').append(hall.last()).append(' ').append(hall.digest()).toString();
    }

    /** The picture of a hall, and what is there as its moves are taken back and done again. */
    static String story(TaflHall hall) {
        StringBuilder text = new StringBuilder(picture(hall));
        boolean turned = true;
        for (int left = hall.of(4); left > 0 && turned; left--) {
            turned = turned(hall, hall::back, text);
        }
        for (int left = hall.of(5); left > 0 && turned; left--) {
            turned = turned(hall, hall::again, text);
        }
        return text.toString();
    }

    private static boolean turned(TaflHall hall, Call call, StringBuilder text) {
        try {
            call.run();
            text.append(" / ").append(glimpse(hall));
            return true;
        } catch (IllegalStateException e) {
            text.append(" / not turned");
            return false;
        }
    }

    static void finish() {
        System.out.println(done + " checks, " + wrong + " wrong");
        if (wrong != 0 || done == 0) {
            System.exit(1);
        }
    }
}
