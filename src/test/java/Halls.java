/** Halls for tests, and what the tests ask of them again and again. */
final class Halls {
    interface OfNumber {
        Object answer(Blazonhall hall, int number);
    }

    private static final String LETTERS = "OAGZSVPE";

    private Halls() {
    }

    /**
     * Arms 0 plain Azure, 1 per pale Vert and Argent with a chief Or and two roses Gules, 2 these
     * impaled; 0 and 1 are founders of the arms 0 and 1, 2 is their child.
     */
    static Blazonhall small() {
        Blazonhall hall = new Blazonhall();
        hall.field(0, 3, 0);
        hall.field(1, 5, 1);
        hall.ordinary(1, 6, 0);
        hall.charge(1, 2, 2, 2);
        hall.impale(0, 1);
        hall.founder(0);
        hall.founder(1);
        hall.born(0, 1);
        return hall;
    }

    /** The small one, with ten arms (3 to 9 plain Or) and twelve people (3 to 11 bear arms 0). */
    static Blazonhall full() {
        Blazonhall hall = small();
        fillArms(hall);
        while (hall.many(1) < 12) {
            hall.founder(0);
        }
        return hall;
    }

    static void fillArms(Blazonhall hall) {
        while (hall.many(0) < 10) {
            hall.field(0, 0, 0);
        }
    }

    static Blazonhall withFounders(int count) {
        Blazonhall hall = new Blazonhall();
        hall.field(0, 3, 0);
        for (int i = 0; i < count; i++) {
            hall.founder(0);
        }
        return hall;
    }

    /** Simple arms 0 with an ordinary and lions. */
    static Blazonhall simple(int division, int first, int second, int ordinary, int onOrdinary,
            int number, int onCharges) {
        Blazonhall hall = new Blazonhall();
        hall.field(division, first, second);
        hall.ordinary(0, ordinary, onOrdinary);
        hall.charge(0, 0, number, onCharges);
        return hall;
    }

    /** The eight rows of arms, as letters. */
    static String picture(Blazonhall hall, int arms) {
        StringBuilder rows = new StringBuilder();
        for (int y = 0; y < 8; y++) {
            for (int x = 0; x < 8; x++) {
                rows.append(LETTERS.charAt(hall.at(arms, x, y)));
            }
            rows.append(y < 7 ? " " : "");
        }
        return rows.toString();
    }

    /** The eight rows of what one bears, as letters. */
    static String borne(Blazonhall hall, int person) {
        StringBuilder rows = new StringBuilder();
        for (int y = 0; y < 8; y++) {
            for (int x = 0; x < 8; x++) {
                rows.append(LETTERS.charAt(hall.bears(person, x, y)));
            }
            rows.append(y < 7 ? " " : "");
        }
        return rows.toString();
    }

    static String times(String row, int count) {
        return String.join(" ", java.util.Collections.nCopies(count, row));
    }

    /** All that a hall was told, as far as it can be asked, in few calls. */
    static String told(Blazonhall hall) {
        StringBuilder told = new StringBuilder().append(hall.digest());
        int allArms = hall.many(0);
        int people = hall.many(1);
        for (int arms = 0; arms < allArms; arms++) {
            told.append('\n').append(hall.blazon(arms));
        }
        for (int person = 0; person < people; person++) {
            told.append('\n');
            for (int y = 0; y < 8; y++) {
                told.append(hall.row(person, y)).append(' ');
            }
        }
        return told.toString();
    }

    /** In a call, this number is one of arms: the last one is answered, one beyond is refused. */
    static void needArms(String what, OfNumber call) {
        needKnown(what + ", arms", 10, call);
    }

    static void needPerson(String what, OfNumber call) {
        needKnown(what + ", person", 12, call);
    }

    private static void needKnown(String what, int most, OfNumber call) {
        for (int number = 0; number < 3; number++) {
            isKnown(what, small(), number, call);
        }
        isKnown(what, full(), most - 1, call);
        for (int wrong : new int[] {-1, 3, most, Integer.MIN_VALUE, Integer.MAX_VALUE}) {
            Check.index(what + " " + wrong, () -> call.answer(small(), wrong));
        }
        for (int wrong : new int[] {-1, most, Integer.MIN_VALUE, Integer.MAX_VALUE}) {
            Check.index(what + " " + wrong + ", full", () -> call.answer(full(), wrong));
        }
        Check.index(what + " 0 of none", () -> call.answer(new Blazonhall(), 0));
    }

    private static void isKnown(String what, Blazonhall hall, int number, OfNumber call) {
        Object got = Check.outcome(() -> call.answer(hall, number));
        Check.due(what + " " + number + " is known", Check.INDEX.equals(got), false);
    }

    /** In a call on the small hall, this number goes from 0 to the last one and no further. */
    static void needUpTo(String what, int last, String exception, OfNumber call) {
        for (int number = 0; number <= last; number++) {
            int inside = number;
            Check.answered(what + " " + inside, () -> call.answer(small(), inside));
        }
        for (int wrong : new int[] {-1, last + 1, Integer.MIN_VALUE, Integer.MAX_VALUE}) {
            Check.due(what + " " + wrong, Check.outcome(() -> call.answer(small(), wrong)),
                    exception);
        }
    }
}
