/** The sentences of promises 1 to 11 that name an edge, each with a test of its own. */
public final class TellingEdgeTest {
    private static final int OR = 0;
    private static final int ARGENT = 1;
    private static final int GULES = 2;
    private static final int AZURE = 3;
    private static final int SABLE = 4;
    private static final int VERT = 5;
    private static final int ERMINE = 7;
    private static final String NO_ARMS = "Throws `IndexOutOfBoundsException` if there are no such "
            + "ARMS";
    private static final String NO_PERSON = "Throws `IndexOutOfBoundsException` if there is no "
            + "such one";
    private static final String NOT_SIMPLE = "Throws `IllegalStateException` if they are not "
            + "SIMPLE";
    private static final String TEN_ARMS = "Throws `IllegalStateException` if there are 10";
    private static final String TWELVE_PEOPLE = "Throws `IllegalStateException` if there are 12 "
            + "PEOPLE";

    private TellingEdgeTest() {
    }

    public static void main(String[] args) {
        Edges edges = new Edges("TellingEdgeTest");
        edges.under("Promise 1: A new object");
        edges.edge("Creates a hall without ARMS and PEOPLE.", TellingEdgeTest::emptyHall);
        promiseField(edges);
        promiseOrdinary(edges);
        promiseCharge(edges);
        promiseImpale(edges);
        promiseQuarter(edges);
        promiseOver(edges);
        promiseFounder(edges);
        promiseBorn(edges);
        promiseGrant(edges);
        edges.under("Promise 11: ring");
        edges.edge("Returns how many were REFUSED ever, with this.", TellingEdgeTest::rings);
        edges.finish();
    }

    private static void emptyHall() {
        Blazonhall hall = new Blazonhall();
        Check.due("arms", hall.many(0), 0);
        Check.due("people", hall.many(1), 0);
        Check.index("no arms 0", () -> hall.ofArms(0, 0));
        Check.index("no person 0", () -> hall.ofPerson(0, 0));
        Halls.full().ring();
        Blazonhall next = new Blazonhall();
        Check.due("nothing of another hall", next.many(0) + next.many(1) + next.many(6), 0);
    }

    // ---- promise 2

    private static void promiseField(Edges edges) {
        edges.under("Promise 2: field");
        edges.edge("Tells SIMPLE ARMS, of a FIELD alone.", () -> {
            Blazonhall hall = new Blazonhall();
            hall.field(3, GULES, OR);
            Check.due("simple", hall.ofArms(0, 0), 0);
            Check.due("division", hall.ofArms(0, 1), 3);
            Check.due("no ordinary", hall.ofArms(0, 2), 0);
            Check.due("no kind", hall.ofArms(0, 3), -1);
            Check.due("no charges", hall.ofArms(0, 4), 0);
            Check.due("words", hall.blazon(0), "Quarterly Gules and Or");
        });
        edges.edge("Returns their number.", () -> {
            Blazonhall hall = new Blazonhall();
            for (int i = 0; i < 10; i++) {
                Check.due("number", hall.field(0, 0, 0), i);
            }
        });
        edges.edge("Throws `IllegalArgumentException` if division is not 0 to 5, or first or "
                + "second not 0 to 7", () -> {
            Halls.needUpTo("division", 5, Check.ARGUMENT, (hall, i) -> hall.field(i, 0, 0));
            Halls.needUpTo("first", 7, Check.ARGUMENT, (hall, i) -> hall.field(0, i, 0));
            Halls.needUpTo("first", 7, Check.ARGUMENT, (hall, i) -> hall.field(5, i, 0));
            Halls.needUpTo("second", 7, Check.ARGUMENT, (hall, i) -> hall.field(0, 0, i));
            Halls.needUpTo("second", 7, Check.ARGUMENT, (hall, i) -> hall.field(5, 0, i));
        });
        edges.edge(TEN_ARMS, () -> refusesAnEleventh(hall -> hall.field(5, 7, 7)));
    }

    private interface Telling {
        int tell(Blazonhall hall);
    }

    private static void refusesAnEleventh(Telling call) {
        Blazonhall hall = new Blazonhall();
        while (hall.many(0) < 9) {
            hall.field(0, 0, 0);
        }
        Check.due("the 10th", call.tell(hall), 9);
        Check.state("the 11th", () -> call.tell(hall));
        Check.state("the 11th again", () -> call.tell(hall));
        Check.due("ten", hall.many(0), 10);
    }

    // ---- promise 3

    private static void promiseOrdinary(Edges edges) {
        edges.under("Promise 3: ordinary");
        edges.edge("Tells an ORDINARY, in place of the one before.", () -> {
            Blazonhall hall = new Blazonhall();
            hall.field(0, AZURE, AZURE);
            for (int ordinary : new int[] {7, 1, 6, 6}) {
                hall.ordinary(0, ordinary, OR);
            }
            Check.due("the last one alone", Halls.picture(hall, 0), Halls.times("OOOOOOOO", 2)
                    + " " + Halls.times("ZZZZZZZZ", 6));
            hall.ordinary(0, 6, VERT);
            Check.due("the same in another tincture", hall.blazon(0), "Azure, a chief Vert");
        });
        edges.edge("which one (0: none)", () -> {
            Blazonhall hall = Halls.simple(0, AZURE, AZURE, 6, OR, 2, OR);
            Check.due("none", hall.ordinary(0, 0, AZURE), 0);
            Check.due("no ordinary", hall.ofArms(0, 2), 0);
            Check.due("the charges stay", hall.blazon(0), "Azure, two lions Or");
            Check.due("nothing of it is seen", hall.at(0, 0, 0), AZURE);
            hall.ordinary(0, 1, VERT);
            Check.due("one again", hall.blazon(0), "Azure, a pale Vert, two lions Or");
        });
        edges.edge("Returns FAULTS then.", () -> {
            Blazonhall hall = Halls.simple(0, AZURE, AZURE, 0, OR, 1, SABLE);
            Check.due("both", hall.ordinary(0, 1, VERT), 2);
            Check.due("none", hall.ordinary(0, 1, OR), 0);
            Check.due("both, apart", hall.ordinary(0, 6, VERT), 2);
            Check.due("the charges stay", hall.ordinary(0, 0, VERT), 1);
            hall.charge(0, 0, 1, OR);
            Check.due("the charges' alone", hall.ordinary(0, 1, ARGENT), 1);
            Check.due("the ordinary's alone", hall.ordinary(0, 1, VERT), 1);
        });
        edges.edge(NO_ARMS, () -> Halls.needArms("ordinary", (hall, i) -> hall.ordinary(i, 1, 1)));
        edges.edge("Throws `IllegalArgumentException` if ordinary or tincture is not 0 to 7",
                () -> {
            Halls.needUpTo("ordinary", 7, Check.ARGUMENT, (hall, i) -> hall.ordinary(0, i, 0));
            Halls.needUpTo("tincture", 7, Check.ARGUMENT, (hall, i) -> hall.ordinary(0, 7, i));
            Halls.needUpTo("tincture of none", 7, Check.ARGUMENT,
                    (hall, i) -> hall.ordinary(0, 0, i));
        });
        edges.edge(NOT_SIMPLE, () -> {
            Blazonhall hall = threeOfSimple();
            for (int i = 1; i < 4; i++) {
                int arms = i;
                Check.state("ordinary of made " + arms, () -> hall.ordinary(arms, 1, 1));
                Check.state("none of made " + arms, () -> hall.ordinary(arms, 0, 0));
            }
            Check.due("of simple ones", hall.ordinary(0, 1, ERMINE), 0);
        });
    }

    /** Arms 0 simple, 1 impaled, 2 quartered, 3 with one over. */
    private static Blazonhall threeOfSimple() {
        Blazonhall hall = new Blazonhall();
        hall.field(0, AZURE, AZURE);
        hall.impale(0, 0);
        hall.quarter(0, 0, 0, 0);
        hall.over(0, 0);
        return hall;
    }

    // ---- promise 4

    private static void promiseCharge(Edges edges) {
        edges.under("Promise 4: charge");
        edges.edge("Tells CHARGES, in place of those before.", () -> {
            Blazonhall hall = new Blazonhall();
            hall.field(0, AZURE, AZURE);
            for (int number : new int[] {3, 2, 1, 1}) {
                hall.charge(0, 2, number, OR);
            }
            Check.due("the last ones alone", hall.share(0, OR), 4 / 64.0);
            Check.due("words", hall.blazon(0), "Azure, a rose Or");
            hall.charge(0, 1, 1, VERT);
            Check.due("another kind and tincture", hall.blazon(0), "Azure, an eagle Vert");
        });
        edges.edge("the NUMBER (0: none)", () -> {
            Blazonhall hall = Halls.simple(0, AZURE, AZURE, 1, OR, 3, OR);
            Check.due("none", hall.charge(0, 5, 0, AZURE), 0);
            Check.due("no number", hall.ofArms(0, 4), 0);
            Check.due("no kind", hall.ofArms(0, 3), -1);
            Check.due("the ordinary stays", hall.blazon(0), "Azure, a pale Or");
            Check.due("nothing of them is seen", hall.at(0, 1, 1), AZURE);
        });
        edges.edge("Returns FAULTS then.", () -> {
            Blazonhall hall = Halls.simple(0, AZURE, AZURE, 1, VERT, 0, OR);
            Check.due("both", hall.charge(0, 0, 1, SABLE), 2);
            Check.due("the ordinary's alone", hall.charge(0, 0, 1, OR), 1);
            hall.ordinary(0, 1, OR);
            Check.due("the charges' alone", hall.charge(0, 0, 1, ARGENT), 1);
            Check.due("none", hall.charge(0, 0, 1, SABLE), 0);
        });
        edges.edge(NO_ARMS, () -> Halls.needArms("charge", (hall, i) -> hall.charge(i, 1, 1, 1)));
        edges.edge("Throws `IllegalArgumentException` if kind is not 0 to 5, number not 0 to 3, or "
                + "tincture not 0 to 7", () -> {
            Halls.needUpTo("kind", 5, Check.ARGUMENT, (hall, i) -> hall.charge(0, i, 1, 0));
            Halls.needUpTo("kind of none", 5, Check.ARGUMENT, (hall, i) -> hall.charge(0, i, 0, 0));
            Halls.needUpTo("number", 3, Check.ARGUMENT, (hall, i) -> hall.charge(0, 5, i, 7));
            Halls.needUpTo("tincture", 7, Check.ARGUMENT, (hall, i) -> hall.charge(0, 5, 3, i));
            Halls.needUpTo("tincture of none", 7, Check.ARGUMENT,
                    (hall, i) -> hall.charge(0, 0, 0, i));
        });
        edges.edge(NOT_SIMPLE, () -> {
            Blazonhall hall = threeOfSimple();
            for (int i = 1; i < 4; i++) {
                int arms = i;
                Check.state("charges of made " + arms, () -> hall.charge(arms, 1, 1, 1));
                Check.state("none of made " + arms, () -> hall.charge(arms, 0, 0, 0));
            }
            Check.due("of simple ones", hall.charge(0, 1, 1, ERMINE), 0);
        });
    }

    // ---- promises 5 to 7

    private static void promiseImpale(Edges edges) {
        edges.under("Promise 5: impale");
        edges.edge("the ARMS on the left", () -> {
            Blazonhall hall = unlike();
            hall.impale(1, 2);
            hall.impale(2, 1);
            hall.impale(1, 1);
            Check.due("on the left", hall.at(4, 3, 0) * 10 + hall.at(4, 4, 0), 10 * GULES + AZURE);
            Check.due("turned", hall.at(5, 3, 0) * 10 + hall.at(5, 4, 0), 10 * AZURE + GULES);
            Check.due("one on both", hall.at(6, 3, 0) * 10 + hall.at(6, 4, 0), 11 * GULES);
        });
        edges.edge("Returns the number of the new ones.",
                () -> returnsNumbers(hall -> hall.impale(0, 0), 1));
        edges.edge(NO_ARMS + ", of both", () -> {
            Halls.needArms("left", (hall, i) -> hall.impale(i, 0));
            Halls.needArms("right", (hall, i) -> hall.impale(0, i));
        });
        edges.edge(TEN_ARMS, () -> refusesAnEleventh(hall -> hall.impale(8, 0)));
    }

    /** Arms 0 to 3, plain Or, Gules, Azure and Ermine. */
    private static Blazonhall unlike() {
        Blazonhall hall = new Blazonhall();
        hall.field(0, OR, OR);
        hall.field(0, GULES, OR);
        hall.field(0, AZURE, OR);
        hall.field(0, ERMINE, OR);
        return hall;
    }

    private static void returnsNumbers(Telling call, int made) {
        Blazonhall hall = new Blazonhall();
        hall.field(0, OR, OR);
        for (int i = 1; i < 10; i++) {
            Check.due("number", call.tell(hall), i);
            Check.due("made", hall.ofArms(i, 0), made);
        }
    }

    private static void promiseQuarter(Edges edges) {
        edges.under("Promise 6: quarter");
        edges.edge("the first ARMS", () -> {
            Blazonhall hall = unlike();
            hall.quarter(0, 1, 2, 3);
            hall.quarter(3, 2, 1, 0);
            hall.quarter(1, 1, 1, 1);
            Check.due("each in its quarter", Halls.picture(hall, 4), Halls.times("OOOOGGGG", 4)
                    + " " + Halls.times("ZZZZEEEE", 4));
            Check.due("turned", Halls.picture(hall, 5), Halls.times("EEEEZZZZ", 4)
                    + " " + Halls.times("GGGGOOOO", 4));
            Check.due("one in all", hall.share(6, GULES), 1.0);
        });
        edges.edge("Returns the number of the new ones.",
                () -> returnsNumbers(hall -> hall.quarter(0, 0, 0, 0), 2));
        edges.edge(NO_ARMS + ", of all four", () -> {
            Halls.needArms("first", (hall, i) -> hall.quarter(i, 0, 0, 0));
            Halls.needArms("second", (hall, i) -> hall.quarter(0, i, 0, 0));
            Halls.needArms("third", (hall, i) -> hall.quarter(0, 0, i, 0));
            Halls.needArms("fourth", (hall, i) -> hall.quarter(0, 0, 0, i));
        });
        edges.edge(TEN_ARMS, () -> refusesAnEleventh(hall -> hall.quarter(8, 0, 1, 2)));
    }

    private static void promiseOver(Edges edges) {
        edges.under("Promise 7: over");
        edges.edge("Sets ARMS OVER others.", () -> {
            Blazonhall hall = unlike();
            hall.over(1, 2);
            hall.over(2, 1);
            hall.over(3, 3);
            Check.due("the small ones", hall.share(4, AZURE), 16 / 64.0);
            Check.due("the large ones", hall.share(4, GULES), 48 / 64.0);
            Check.due("turned", hall.share(5, AZURE), 48 / 64.0);
            Check.due("over themselves", hall.share(6, ERMINE), 1.0);
        });
        edges.edge("Returns the number of the new ones.",
                () -> returnsNumbers(hall -> hall.over(0, 0), 3));
        edges.edge(NO_ARMS + ", of both", () -> {
            Halls.needArms("large", (hall, i) -> hall.over(i, 0));
            Halls.needArms("small", (hall, i) -> hall.over(0, i));
        });
        edges.edge(TEN_ARMS, () -> refusesAnEleventh(hall -> hall.over(8, 0)));
    }

    // ---- promise 8

    private static void promiseFounder(Edges edges) {
        edges.under("Promise 8: founder");
        edges.edge("Returns the number of that one.", () -> {
            Blazonhall hall = new Blazonhall();
            hall.field(0, OR, OR);
            for (int i = 0; i < 12; i++) {
                Check.due("number", hall.founder(0), i);
            }
        });
        edges.edge(NO_ARMS, () -> {
            Halls.needArms("founder", (hall, i) -> hall.founder(i));
            Blazonhall hall = new Blazonhall();
            Halls.fillArms(hall);
            Check.due("of the last arms", hall.founder(9), 0);
            Check.due("bears them", hall.ofPerson(0, 0), 9);
        });
        edges.edge(TWELVE_PEOPLE, () -> refusesAThirteenth(hall -> hall.founder(0)));
    }

    private static void refusesAThirteenth(Telling call) {
        Blazonhall hall = Halls.withFounders(11);
        Check.due("the 12th", call.tell(hall), 11);
        Check.state("the 13th", () -> call.tell(hall));
        Check.state("the 13th again", () -> call.tell(hall));
        Check.due("twelve", hall.many(1), 12);
    }

    // ---- promise 9

    private static void promiseBorn(Edges edges) {
        edges.under("Promise 9: born");
        edges.edge("Returns the number of that one.", () -> {
            Blazonhall hall = Halls.withFounders(2);
            for (int i = 2; i < 12; i++) {
                Check.due("number", hall.born(i - 1, i - 2), i);
            }
        });
        edges.edge(NO_PERSON + ", of both", () -> {
            Halls.needPerson("first", (hall, i) -> hall.born(i, 1));
            Halls.needPerson("other", (hall, i) -> hall.born(1, i));
            Blazonhall hall = Halls.withFounders(2);
            Check.index("oneself as first", () -> hall.born(2, 0));
            Check.index("oneself as other", () -> hall.born(0, 2));
        });
        edges.edge("Throws `IllegalArgumentException` if both are the same", () -> {
            for (int i = 0; i < 3; i++) {
                int same = i;
                Blazonhall hall = Halls.small();
                Check.argument("twice " + same, () -> hall.born(same, same));
                Check.due("not the same", hall.born(same, (same + 1) % 3), 3);
            }
        });
        edges.edge(TWELVE_PEOPLE, () -> refusesAThirteenth(hall -> hall.born(10, 0)));
    }

    // ---- promise 10

    private static void promiseGrant(Edges edges) {
        edges.under("Promise 10: grant");
        edges.edge("the ARMS from now on", () -> {
            Blazonhall hall = Halls.small();
            hall.grant(0, 2);
            Check.due("the arms", hall.ofPerson(0, 0), 2);
            Check.due("what is borne", Halls.borne(hall, 0), Halls.picture(hall, 2));
            Check.due("of nobody else", hall.ofPerson(1, 0), 1);
            hall.charge(0, 0, 1, ERMINE);
            Check.due("whatever these become later", Halls.borne(hall, 0), Halls.picture(hall, 2));
        });
        edges.edge("Returns those before.", () -> {
            Blazonhall hall = Halls.small();
            Check.due("those told at first", hall.grant(1, 2), 1);
            Check.due("those granted", hall.grant(1, 0), 2);
            Check.due("the number 0", hall.grant(1, 0), 0);
            Check.due("the same", hall.grant(1, 1), 0);
        });
        edges.edge("Throws `IndexOutOfBoundsException` if there is no such one, or there are no "
                + "such ARMS", () -> {
            Halls.needPerson("grant", (hall, i) -> hall.grant(i, 0));
            Halls.needArms("grant", (hall, i) -> hall.grant(0, i));
            Check.index("no arms at all", () -> new Blazonhall().grant(0, 0));
        });
        edges.edge("Throws `IllegalStateException` if that one is no FOUNDER", () -> {
            Blazonhall hall = Halls.small();
            Check.state("one who is born", () -> hall.grant(2, 0));
            hall.founder(0);
            hall.born(2, 3);
            Check.state("one who is born later", () -> hall.grant(4, 0));
            Check.due("a founder behind them", hall.grant(3, 1), 0);
        });
    }

    // ---- promise 11

    private static void rings() {
        Blazonhall hall = new Blazonhall();
        for (int i = 1; i <= 511; i++) {
            Check.due("with this", hall.ring(), i);
        }
        Check.due("ever", hall.many(6), 511);
        Blazonhall other = new Blazonhall();
        Check.index("a refused call is not counted", () -> other.at(0, 0, 0));
        Check.argument("a refused call is not counted", () -> other.many(8));
        Check.due("of another hall", other.ring(), 1);
    }
}
