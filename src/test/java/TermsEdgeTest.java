/** The sentences of the document's terms that name an edge, each with a test of its own. */
public final class TermsEdgeTest {
    private static final int OR = 0;
    private static final int ARGENT = 1;
    private static final int GULES = 2;
    private static final int AZURE = 3;
    private static final int SABLE = 4;
    private static final int VERT = 5;
    private static final int PURPURE = 6;
    private static final int ERMINE = 7;
    private static final String BLANK = "ZZZZZZZZ";
    private static final String FULL = "OOOOOOOO";

    private TermsEdgeTest() {
    }

    public static void main(String[] args) {
        Edges edges = new Edges("TermsEdgeTest");
        edges.under("What it is");
        edges.edge("An object is used for at most 512 calls after it has been made",
                TermsEdgeTest::theLastCall);
        edges.under("Terms");
        general(edges);
        fields(edges);
        ordinaries(edges);
        charges(edges);
        faults(edges);
        putTogether(edges);
        people(edges);
        exceptions(edges);
        edges.finish();
    }

    private static void theLastCall() {
        Blazonhall hall = new Blazonhall();
        for (int i = 1; i <= 507; i++) {
            hall.ring();
        }
        Check.due("call 508", hall.field(5, PURPURE, ERMINE), 0);
        Check.due("call 509", hall.founder(0), 0);
        Check.due("call 510", hall.row(0, 7), "EEPPEEPP");
        Check.due("call 511", hall.many(6), 507);
        Check.index("call 512", () -> hall.nearest(1));
    }

    // ---- what stands ahead of section 1, and section 1

    private static void general(Edges edges) {
        edges.edge("what is divided is rounded down", TermsEdgeTest::halvesAreRoundedDown);
        edges.edge("NONE is -1.", TermsEdgeTest::noneIsMinusOne);
        edges.edge("A set is the sum of 2^k.", TermsEdgeTest::setsAreSums);
        edges.edge("TINCTURES: 0 Or, 1 Argent (these are METALS), 2 Gules, 3 Azure, 4 Sable, "
                + "5 Vert, 6 Purpure (these are COLOURS), 7 Ermine (neither).",
                TermsEdgeTest::tincturesAreNumbered);
        edges.edge("Two CLASH, if both are METALS or both are COLOURS (also if they are the same; "
                + "but Ermine only with Ermine).", TermsEdgeTest::eachPairClashesOrNot);
        edges.edge("A SHIELD has 8 by 8 POINTS (x, y), x of 0 to 7 from the left on, y of 0 to 7 "
                + "from above.", TermsEdgeTest::pointsLieOnTheShield);
        edges.edge("ARMS: at most 10, numbered from 0, SIMPLE ones and those that are put "
                + "together.", TermsEdgeTest::tenArmsOfAllSorts);
    }

    private static void halvesAreRoundedDown() {
        Blazonhall hall = new Blazonhall();
        hall.field(5, OR, GULES);
        int[] dues = {OR, OR, GULES, GULES, OR, OR, GULES, GULES};
        for (int i = 0; i < 8; i++) {
            Check.due("x of " + i, hall.at(0, i, 1), dues[i]);
            Check.due("y of " + i, hall.at(0, 1, i), dues[i]);
        }
    }

    private static void noneIsMinusOne() {
        Blazonhall hall = Halls.withFounders(1);
        Check.due("no kind", hall.ofArms(0, 3), -1);
        Check.due("no best one", hall.best(0, true), -1);
        Check.due("no parent", hall.ofPerson(0, 1), -1);
        Check.due("nobody else", hall.nearest(0), -1);
    }

    private static void setsAreSums() {
        Blazonhall hall = new Blazonhall();
        hall.field(0, OR, ERMINE);
        hall.field(0, ERMINE, OR);
        hall.impale(0, 1);
        Check.due("the smallest alone", hall.ofArms(0, 6), 1);
        Check.due("the greatest alone", hall.ofArms(1, 6), 128);
        Check.due("both", hall.ofArms(2, 6), 129);
        hall.field(3, ARGENT, GULES);
        hall.ordinary(3, 7, AZURE);
        hall.charge(3, 0, 1, SABLE);
        hall.field(1, VERT, PURPURE);
        hall.quarter(0, 1, 3, 4);
        Check.due("all eight", hall.ofArms(5, 6), 255);
    }

    private static void tincturesAreNumbered() {
        String[] names = {"Or", "Argent", "Gules", "Azure", "Sable", "Vert", "Purpure", "Ermine"};
        String metals = "11000000";
        String colours = "00111110";
        for (int tincture = 0; tincture < 8; tincture++) {
            Blazonhall hall = new Blazonhall();
            hall.field(0, tincture, OR);
            Check.due("name of " + tincture, hall.blazon(0), names[tincture]);
            Check.due(names[tincture] + " is a metal", hall.ordinary(0, 2, ARGENT),
                    metals.charAt(tincture) - '0');
            Check.due(names[tincture] + " is a colour", hall.ordinary(0, 2, VERT),
                    colours.charAt(tincture) - '0');
        }
    }

    private static void eachPairClashesOrNot() {
        String[] clashes = {"11000000", "11000000", "00111110", "00111110", "00111110", "00111110",
            "00111110", "00000001"};
        for (int below = 0; below < 8; below++) {
            Blazonhall hall = new Blazonhall();
            hall.field(0, below, OR);
            for (int above = 0; above < 8; above++) {
                int due = clashes[below].charAt(above) - '0';
                Check.due(above + " on " + below, hall.ordinary(0, 1, above), due);
                hall.ordinary(0, 0, above);
                Check.due("charges " + above + " on " + below, hall.charge(0, 0, 3, above), due);
                hall.charge(0, 0, 0, above);
            }
        }
    }

    private static void pointsLieOnTheShield() {
        Blazonhall hall = new Blazonhall();
        hall.field(1, OR, GULES);
        hall.field(2, OR, GULES);
        Check.due("on the left", hall.at(0, 0, 7), OR);
        Check.due("on the right", hall.at(0, 7, 0), GULES);
        Check.due("above", hall.at(1, 7, 0), OR);
        Check.due("below", hall.at(1, 0, 7), GULES);
        Check.due("the last point", hall.at(1, 7, 7), GULES);
        Check.due("a point of 64", hall.share(0, OR), 0.5);
        Check.index("x 8", () -> hall.at(0, 8, 0));
        Check.index("y 8", () -> hall.at(0, 0, 8));
        Check.index("x -1", () -> hall.at(0, -1, 0));
        Check.index("y -1", () -> hall.at(0, 0, -1));
    }

    private static void tenArmsOfAllSorts() {
        Blazonhall hall = new Blazonhall();
        for (int i = 0; i < 10; i++) {
            int number = i % 4 == 0 ? hall.field(i % 6, i % 8, 7)
                    : i % 4 == 1 ? hall.impale(i - 1, 0)
                    : i % 4 == 2 ? hall.quarter(0, i - 1, 0, 0) : hall.over(i - 1, 0);
            Check.due("numbered from 0", number, i);
            Check.due("arms", hall.many(0), i + 1);
        }
        Check.state("an 11th field", () -> hall.field(0, 0, 0));
        Check.state("11th, impaled", () -> hall.impale(0, 0));
        Check.state("11th, quartered", () -> hall.quarter(0, 0, 0, 0));
        Check.state("11th, over", () -> hall.over(0, 0));
        Check.due("ten arms", hall.many(0), 10);
    }

    // ---- section 2: fields

    private static void fields(Edges edges) {
        edges.edge("0 plain: none", () -> drawsField(0, Halls.times(FULL, 8)));
        edges.edge("1 per pale: x is 4 or more", () -> drawsField(1, Halls.times("OOOOGGGG", 8)));
        edges.edge("2 per fess: y is 4 or more", () -> drawsField(2,
                Halls.times(FULL, 4) + " " + Halls.times("GGGGGGGG", 4)));
        edges.edge("3 quarterly: x is 4 or more, or y is, but not both", () -> drawsField(3,
                Halls.times("OOOOGGGG", 4) + " " + Halls.times("GGGGOOOO", 4)));
        edges.edge("4 per bend: x is less than y", () -> drawsField(4, "OOOOOOOO GOOOOOOO "
                + "GGOOOOOO GGGOOOOO GGGGOOOO GGGGGOOO GGGGGGOO GGGGGGGO"));
        edges.edge("5 chequy: x / 2 and y / 2 together are an odd number", () -> drawsField(5,
                "OOGGOOGG OOGGOOGG GGOOGGOO GGOOGGOO OOGGOOGG OOGGOOGG GGOOGGOO GGOOGGOO"));
        edges.edge("The FIRST one is at all others.", TermsEdgeTest::firstOneIsElsewhere);
    }

    private static void drawsField(int division, String rows) {
        Blazonhall hall = new Blazonhall();
        hall.field(division, OR, GULES);
        Check.due("division " + division, Halls.picture(hall, 0), rows);
    }

    private static void firstOneIsElsewhere() {
        double[] dues = {1.0, 0.5, 0.5, 0.5, 36 / 64.0, 0.5};
        for (int division = 0; division < 6; division++) {
            Blazonhall hall = new Blazonhall();
            hall.field(division, VERT, ERMINE);
            Check.due("first of " + division, hall.share(0, VERT), dues[division]);
            Check.due("second of " + division, hall.share(0, ERMINE), 1.0 - dues[division]);
            hall.field(division, VERT, VERT);
            Check.due("both the same", hall.share(1, VERT), 1.0);
        }
    }

    // ---- section 2: ordinaries

    private static void ordinaries(Edges edges) {
        String saltire = "OZZZZZZO ZOZZZZOZ ZZOZZOZZ ZZZOOZZZ ZZZOOZZZ ZZOZZOZZ ZOZZZZOZ OZZZZZZO";
        String bend = "OOZZZZZZ OOOZZZZZ ZOOOZZZZ ZZOOOZZZ ZZZOOOZZ ZZZZOOOZ ZZZZZOOO ZZZZZZOO";
        edges.edge("They can have one ORDINARY", TermsEdgeTest::oneOrdinaryAlone);
        edges.edge("1 a pale: x is 3 or 4", () -> drawsOrdinary(1, Halls.times("ZZZOOZZZ", 8)));
        edges.edge("2 a fess: y is 3 or 4", () -> drawsOrdinary(2,
                Halls.times(BLANK, 3) + " " + Halls.times(FULL, 2) + " " + Halls.times(BLANK, 3)));
        edges.edge("3 a bend: x and y differ by 1 at most", () -> drawsOrdinary(3, bend));
        edges.edge("4 a cross: x is 3 or 4, or y is", () -> drawsOrdinary(4,
                Halls.times("ZZZOOZZZ", 3) + " " + Halls.times(FULL, 2) + " "
                + Halls.times("ZZZOOZZZ", 3)));
        edges.edge("5 a saltire: x and y are the same, or together 7",
                () -> drawsOrdinary(5, saltire));
        edges.edge("6 a chief: y is 0 or 1", () -> drawsOrdinary(6,
                Halls.times(FULL, 2) + " " + Halls.times(BLANK, 6)));
        edges.edge("7 a bordure: x or y is 0 or 7", () -> drawsOrdinary(7,
                FULL + " " + Halls.times("OZZZZZZO", 6) + " " + FULL));
        edges.edge("(0: no ORDINARY)", () -> drawsOrdinary(0, Halls.times(BLANK, 8)));
    }

    private static void drawsOrdinary(int ordinary, String rows) {
        Blazonhall hall = Halls.simple(0, AZURE, OR, ordinary, OR, 0, OR);
        Check.due("ordinary " + ordinary, Halls.picture(hall, 0), rows);
    }

    private static void oneOrdinaryAlone() {
        Blazonhall hall = new Blazonhall();
        hall.field(0, AZURE, AZURE);
        Check.due("none at first", hall.ofArms(0, 2), 0);
        for (int ordinary = 1; ordinary < 8; ordinary++) {
            hall.ordinary(0, ordinary, ordinary % 2);
            Check.due("in place of the one before", hall.ofArms(0, 2), ordinary);
            Check.due("two tinctures alone", hall.ofArms(0, 6), 8 + (ordinary % 2 == 0 ? 1 : 2));
        }
    }

    // ---- section 2: charges

    private static void charges(Edges edges) {
        edges.edge("a KIND (0 lion, 1 eagle, 2 rose, 3 star, 4 boar, 5 tower)",
                TermsEdgeTest::kindsOfCharges);
        edges.edge("a NUMBER (1 to 3; 0: no CHARGES)", TermsEdgeTest::numbersOfCharges);
        edges.edge("each one covers 2 by 2 POINTS, of which the one with the smallest x and y is",
                TermsEdgeTest::chargesCoverFourPoints);
        edges.edge("with a NUMBER of 1 (3, 3)", () -> drawsCharges(1,
                Halls.times(BLANK, 3) + " " + Halls.times("ZZZOOZZZ", 2) + " "
                + Halls.times(BLANK, 3)));
        edges.edge("of 2 (1, 3) and (5, 3)", () -> drawsCharges(2,
                Halls.times(BLANK, 3) + " " + Halls.times("ZOOZZOOZ", 2) + " "
                + Halls.times(BLANK, 3)));
        edges.edge("of 3 (1, 1), (5, 1) and (3, 5)", () -> drawsCharges(3,
                BLANK + " " + Halls.times("ZOOZZOOZ", 2) + " " + Halls.times(BLANK, 2) + " "
                + Halls.times("ZZZOOZZZ", 2) + " " + BLANK));
        edges.edge("They lie over the ORDINARY.", TermsEdgeTest::chargesLieOverTheOrdinary);
    }

    private static void drawsCharges(int number, String rows) {
        for (int kind = 0; kind < 6; kind++) {
            Blazonhall hall = new Blazonhall();
            hall.field(0, AZURE, AZURE);
            hall.charge(0, kind, number, OR);
            Check.due(number + " of kind " + kind, Halls.picture(hall, 0), rows);
        }
    }

    private static void kindsOfCharges() {
        String[] names = {"lion", "eagle", "rose", "star", "boar", "tower"};
        Blazonhall hall = new Blazonhall();
        hall.field(0, AZURE, AZURE);
        for (int kind = 0; kind < 6; kind++) {
            hall.charge(0, kind, 3, OR);
            Check.due("kind", hall.ofArms(0, 3), kind);
            Check.due("name", hall.blazon(0), "Azure, three " + names[kind] + "s Or");
        }
        Check.argument("kind 6", () -> hall.charge(0, 6, 3, OR));
        Check.argument("kind -1", () -> hall.charge(0, -1, 3, OR));
    }

    private static void numbersOfCharges() {
        Blazonhall hall = new Blazonhall();
        hall.field(0, AZURE, AZURE);
        Check.due("none at first", hall.ofArms(0, 4), 0);
        for (int number : new int[] {3, 0, 1, 2, 0}) {
            hall.charge(0, 0, number, OR);
            Check.due("number", hall.ofArms(0, 4), number);
            Check.due("seen with " + number, hall.ofArms(0, 6), number == 0 ? 8 : 9);
        }
        Check.argument("4 charges", () -> hall.charge(0, 0, 4, OR));
        Check.argument("-1 charges", () -> hall.charge(0, 0, -1, OR));
    }

    private static void chargesCoverFourPoints() {
        for (int number = 0; number < 4; number++) {
            Blazonhall hall = Halls.simple(0, AZURE, AZURE, 0, OR, number, OR);
            Check.due("share of " + number, hall.share(0, OR), number * 4 / 64.0);
        }
        Blazonhall hall = Halls.simple(0, AZURE, AZURE, 0, OR, 1, OR);
        int[] dues = {AZURE, OR, OR, AZURE};
        for (int i = 2; i < 6; i++) {
            Check.due("x " + i, hall.at(0, i, 3), dues[i - 2]);
            Check.due("y " + i, hall.at(0, 4, i), dues[i - 2]);
        }
    }

    private static void chargesLieOverTheOrdinary() {
        Blazonhall hall = Halls.simple(0, AZURE, AZURE, 2, ARGENT, 2, OR);
        Check.due("charges told behind it", hall.at(0, 1, 3), OR);
        Check.due("beside them", hall.at(0, 3, 3), ARGENT);
        hall.ordinary(0, 4, GULES);
        Check.due("charges told ahead of it", hall.at(0, 2, 4), OR);
        Check.due("beside them", hall.at(0, 3, 4), GULES);
    }

    // ---- section 2: faults

    private static void faults(Edges edges) {
        edges.edge("1 if the ORDINARY CLASHES with each TINCTURE that the FIELD has at the POINTS "
                + "that it covers", TermsEdgeTest::ordinaryClashesWithEach);
        edges.edge("1 more if the CHARGES CLASH with each TINCTURE that they cover (of the FIELD "
                + "with the ORDINARY on it)", TermsEdgeTest::chargesClashWithEach);
    }

    private static void faultsAre(int due, int division, int first, int second, int ordinary,
            int onOrdinary, int number, int onCharges) {
        Blazonhall hall = Halls.simple(division, first, second, ordinary, onOrdinary, number,
                onCharges);
        Check.due("faults of " + hall.blazon(0), hall.ofArms(0, 5), due);
    }

    private static void ordinaryClashesWithEach() {
        faultsAre(0, 0, AZURE, AZURE, 0, AZURE, 0, AZURE);
        faultsAre(1, 0, AZURE, OR, 1, SABLE, 0, OR);
        // All of the field that it covers clashes, though the rest of it does not.
        faultsAre(1, 2, AZURE, OR, 6, SABLE, 0, OR);
        faultsAre(0, 2, OR, AZURE, 6, SABLE, 0, OR);
        faultsAre(0, 2, AZURE, OR, 6, ARGENT, 0, OR);
        faultsAre(1, 3, AZURE, GULES, 4, SABLE, 0, OR);
        // One tincture that does not clash is enough, be it at two points alone.
        faultsAre(0, 3, AZURE, OR, 3, SABLE, 0, OR);
        faultsAre(0, 3, OR, AZURE, 3, SABLE, 0, OR);
        faultsAre(0, 4, OR, AZURE, 5, SABLE, 0, OR);
        // Of a field per bend, a chief covers the second one at (0, 1) alone.
        faultsAre(0, 4, AZURE, OR, 6, SABLE, 0, OR);
        faultsAre(1, 4, AZURE, GULES, 6, SABLE, 0, OR);
        faultsAre(0, 1, AZURE, ERMINE, 2, SABLE, 0, OR);
        faultsAre(0, 1, AZURE, ERMINE, 2, ERMINE, 0, OR);
        faultsAre(1, 1, ERMINE, ERMINE, 2, ERMINE, 0, OR);
        // What the charges cover of it counts as well: (3, 4) and (4, 3) are the second one's.
        faultsAre(0, 3, AZURE, OR, 3, SABLE, 1, ERMINE);
        // The charges themselves do not: it is the field that it is set on.
        faultsAre(1, 0, AZURE, AZURE, 2, SABLE, 2, OR);
    }

    private static void chargesClashWithEach() {
        faultsAre(0, 0, AZURE, AZURE, 0, OR, 0, AZURE);
        faultsAre(1, 0, AZURE, AZURE, 0, OR, 1, AZURE);
        faultsAre(1, 0, AZURE, AZURE, 0, OR, 2, GULES);
        faultsAre(1, 0, AZURE, AZURE, 0, OR, 3, SABLE);
        // On the ordinary alone, on the field alone, on both.
        faultsAre(1, 0, AZURE, AZURE, 1, OR, 1, ARGENT);
        faultsAre(0, 0, AZURE, AZURE, 1, OR, 1, SABLE);
        faultsAre(1, 0, AZURE, AZURE, 1, OR, 2, SABLE);
        faultsAre(0, 0, AZURE, AZURE, 1, OR, 2, ARGENT);
        faultsAre(0, 0, AZURE, AZURE, 1, OR, 3, SABLE);
        faultsAre(0, 0, AZURE, AZURE, 1, OR, 3, ARGENT);
        faultsAre(2, 0, AZURE, AZURE, 1, GULES, 3, SABLE);
        // Three charges cover each half of a field per pale, and the upper half twice.
        faultsAre(0, 1, AZURE, OR, 0, OR, 3, SABLE);
        faultsAre(0, 2, AZURE, OR, 0, OR, 3, SABLE);
        faultsAre(0, 2, AZURE, OR, 0, OR, 3, ARGENT);
        faultsAre(1, 2, AZURE, GULES, 0, OR, 3, SABLE);
        // One point is enough: the second one's at (3, 4), at (1, 2), the first one's at (4, 6).
        faultsAre(0, 4, AZURE, OR, 0, OR, 1, SABLE);
        faultsAre(0, 4, AZURE, OR, 1, GULES, 3, SABLE);
        faultsAre(0, 3, OR, AZURE, 3, GULES, 3, SABLE);
        // A bordure is under no charges, of a chief the lower row is.
        faultsAre(1, 0, AZURE, AZURE, 7, OR, 3, SABLE);
        faultsAre(0, 0, AZURE, AZURE, 6, OR, 3, SABLE);
        // Of a field whose second tincture the ordinary hides, the first one alone is covered.
        faultsAre(1, 3, OR, AZURE, 3, ARGENT, 1, OR);
        faultsAre(0, 3, OR, AZURE, 3, GULES, 1, OR);
    }

    // ---- section 3

    private static void putTogether(Edges edges) {
        edges.edge("(with a smaller number; whatever these become later)",
                TermsEdgeTest::changesAreSeenThroughAll);
        edges.edge("IMPALED: where x is below 4 the one at (2 x, y), otherwise the other one at "
                + "(2 (x - 4), y).", TermsEdgeTest::impaledHalves);
        edges.edge("QUARTERED: in each quarter one of four at (2 (x modulo 4), 2 (y modulo 4)): "
                + "the first one above on the left, the second one above on the right, the third "
                + "one below on the left, the fourth one below on the right.",
                TermsEdgeTest::quarteredQuarters);
        edges.edge("With one OVER: where x and y are 2 to 5 the small one at (2 (x - 2), "
                + "2 (y - 2)), otherwise the large one at (x, y).", TermsEdgeTest::overTheMiddle);
        edges.edge("FAULTS of such: those of all that it shows, together (one that is shown twice "
                + "counts twice).", TermsEdgeTest::faultsAreAddedUp);
    }

    private static void changesAreSeenThroughAll() {
        Blazonhall hall = new Blazonhall();
        hall.field(0, AZURE, AZURE);
        for (int i = 0; i < 9; i++) {
            int number = i % 3 == 0 ? hall.impale(i, i)
                    : i % 3 == 1 ? hall.quarter(i, i, i, i) : hall.over(i, i);
            Check.due("number", number, i + 1);
        }
        hall.founder(9);
        for (int tincture : new int[] {OR, SABLE, ERMINE}) {
            hall.ordinary(0, 6, tincture);
            for (int arms = 0; arms < 10; arms++) {
                Check.due("the chief of " + arms, hall.at(arms, 0, 0), tincture);
                Check.due("faults of " + arms + " or none", hall.ofArms(arms, 5) > 0,
                        tincture == SABLE);
            }
            Check.due("the chief that is borne", hall.bears(0, 0, 0), tincture);
        }
        hall.ordinary(0, 0, SABLE);
        hall.charge(0, 0, 3, GULES);
        for (int arms = 0; arms < 10; arms++) {
            Check.due("no chief of " + arms, hall.at(arms, 0, 0), AZURE);
            Check.due("tinctures of " + arms, hall.ofArms(arms, 6) >> 3, 1);
            Check.due("faults of " + arms + " or none", hall.ofArms(arms, 5) > 0, true);
        }
    }

    /** Arms 0 to 3, of which no two are alike at many points. */
    private static Blazonhall fourUnlike() {
        Blazonhall hall = new Blazonhall();
        hall.field(4, OR, GULES);
        hall.ordinary(0, 7, AZURE);
        hall.field(5, ARGENT, VERT);
        hall.ordinary(1, 5, SABLE);
        hall.field(3, PURPURE, ERMINE);
        hall.charge(2, 0, 3, OR);
        hall.field(2, SABLE, GULES);
        hall.ordinary(3, 1, ARGENT);
        return hall;
    }

    private static void impaledHalves() {
        Blazonhall hall = fourUnlike();
        hall.impale(0, 1);
        for (int point = 0; point < 64; point++) {
            int x = point % 8;
            int y = point / 8;
            int due = x < 4 ? hall.at(0, 2 * x, y) : hall.at(1, 2 * (x - 4), y);
            Check.due("impaled at " + x + " " + y, hall.at(4, x, y), due);
        }
        Check.due("drawn", Halls.picture(hall, 4), "ZZZZSVAV ZOOOAVAS ZOOOVSVA ZGOOVASA "
                + "ZGOOAVSV ZGGOASAV ZGGOVAVS ZZZZSAVA");
    }

    private static void quarteredQuarters() {
        Blazonhall hall = fourUnlike();
        hall.quarter(0, 1, 2, 3);
        int[][] placed = {{0, 1}, {2, 3}};
        for (int point = 0; point < 64; point++) {
            int x = point % 8;
            int y = point / 8;
            int due = hall.at(placed[y / 4][x / 4], 2 * (x % 4), 2 * (y % 4));
            Check.due("quartered at " + x + " " + y, hall.at(4, x, y), due);
        }
        Check.due("drawn", Halls.picture(hall, 4), "ZZZZSVAV ZOOOVSVA ZGOOAVSV ZGGOVAVS "
                + "PPEESSAS POEOSSAS EEPPGGAG EEOPGGAG");
    }

    private static void overTheMiddle() {
        Blazonhall hall = fourUnlike();
        hall.over(3, 2);
        for (int point = 0; point < 64; point++) {
            int x = point % 8;
            int y = point / 8;
            boolean isSmall = x >= 2 && x <= 5 && y >= 2 && y <= 5;
            int due = isSmall ? hall.at(2, 2 * (x - 2), 2 * (y - 2)) : hall.at(3, x, y);
            Check.due("over at " + x + " " + y, hall.at(4, x, y), due);
        }
        Check.due("drawn", Halls.picture(hall, 4), "SSSAASSS SSSAASSS SSPPEESS SSPOEOSS "
                + "GGEEPPGG GGEEOPGG GGGAAGGG GGGAAGGG");
    }

    private static void faultsAreAddedUp() {
        Blazonhall hall = Halls.simple(0, GULES, GULES, 7, AZURE, 3, SABLE);
        hall.field(0, OR, OR);
        hall.ordinary(1, 2, ARGENT);
        hall.field(0, OR, OR);
        Check.due("impaled", hall.ofArms(hall.impale(0, 1), 5), 3);
        Check.due("one that is shown twice", hall.ofArms(hall.impale(0, 0), 5), 4);
        Check.due("quartered", hall.ofArms(hall.quarter(0, 1, 2, 1), 5), 4);
        Check.due("over", hall.ofArms(hall.over(1, 0), 5), 3);
        Check.due("over itself, hidden or not", hall.ofArms(hall.over(1, 1), 5), 2);
        Check.due("of those that are put together", hall.ofArms(hall.quarter(3, 4, 5, 7), 5), 13);
        Check.due("without faults", hall.ofArms(hall.impale(2, 2), 5), 0);
        hall.charge(0, 0, 0, SABLE);
        Check.due("one fewer of each 0", hall.ofArms(8, 5), 9);
    }

    // ---- section 4

    private static void people(Edges edges) {
        edges.edge("A FOUNDER bears ARMS.", () -> {
            Blazonhall hall = fourUnlike();
            hall.founder(2);
            hall.founder(0);
            Check.due("each point", Halls.borne(hall, 0), Halls.picture(hall, 2));
            Check.due("each point", Halls.borne(hall, 1), Halls.picture(hall, 0));
            hall.ordinary(2, 5, AZURE);
            Check.due("whatever these become", Halls.borne(hall, 0), Halls.picture(hall, 2));
        });
        edges.edge("PEOPLE: at most 12, numbered from 0.", TermsEdgeTest::twelvePeople);
        edges.edge("One who is BORN has two parents (the FIRST and the OTHER one; not the same)",
                TermsEdgeTest::twoParents);
        edges.edge("a RANK: 1 more than how many were BORN ahead who have the same one as their "
                + "FIRST parent.", TermsEdgeTest::ranks);
        edges.edge("SOLE is one who is BORN and has no brother or sister (nobody else is BORN to "
                + "one of both parents)", TermsEdgeTest::soleOnes);
        edges.edge("a FOUNDER is SOLE.", TermsEdgeTest::foundersAreSole);
        edges.edge("if the OTHER parent is SOLE ahead of it being BORN (told then, and so for "
                + "good), QUARTERED the FIRST parent's and the OTHER one's (FIRST, OTHER, OTHER, "
                + "FIRST)", TermsEdgeTest::quarteredOfASoleOne);
        edges.edge("otherwise what the FIRST parent bears.", TermsEdgeTest::asTheFirstParent);
        edges.edge("Over that is the MARK: at the POINTS (3, 1) and (4, 1): Sable, if RANK is odd, "
                + "otherwise Or", TermsEdgeTest::marks);
        edges.edge("but of RANK 1 there is none.", TermsEdgeTest::noMarkOfRankOne);
        edges.edge("(What parents bear is with their own MARKS, and whatever that becomes later.)",
                TermsEdgeTest::marksOfParents);
        edges.edge("A FOUNDER can be GRANTED other ARMS, at any time.",
                TermsEdgeTest::grantedAtAnyTime);
        edges.edge("who rings it holds nothing, and is REFUSED (counted).", TermsEdgeTest::bell);
    }

    private static void twelvePeople() {
        Blazonhall hall = Halls.withFounders(0);
        for (int i = 0; i < 12; i++) {
            int number = i % 3 == 2 ? hall.born(i - 1, i - 2) : hall.founder(0);
            Check.due("numbered from 0", number, i);
            Check.due("people", hall.many(1), i + 1);
        }
        Check.state("a 13th founder", () -> hall.founder(0));
        Check.state("a 13th, born", () -> hall.born(0, 1));
        Check.due("twelve people", hall.many(1), 12);
    }

    private static void twoParents() {
        Blazonhall hall = Halls.withFounders(2);
        for (int same = 0; same < 2; same++) {
            int parent = same;
            Check.argument("the same", () -> hall.born(parent, parent));
        }
        Check.due("nobody came", hall.many(1), 2);
        hall.born(1, 0);
        Check.due("first", hall.ofPerson(2, 1), 1);
        Check.due("other", hall.ofPerson(2, 2), 0);
        hall.born(2, 1);
        Check.due("a child's child by its parent", hall.ofPerson(3, 2), 1);
        Check.argument("one who is born, twice", () -> hall.born(2, 2));
    }

    private static void ranks() {
        Blazonhall hall = Halls.withFounders(3);
        int[][] parents = {{0, 1}, {1, 0}, {0, 2}, {2, 0}, {0, 3}, {1, 0}, {3, 0}, {0, 1}, {2, 1}};
        int[] dues = {1, 1, 2, 1, 3, 2, 1, 4, 2};
        for (int i = 0; i < dues.length; i++) {
            int number = hall.born(parents[i][0], parents[i][1]);
            Check.due("rank of " + number, hall.ofPerson(number, 3), dues[i]);
        }
        for (int i = 0; i < dues.length; i++) {
            Check.due("rank of " + (i + 3) + " later", hall.ofPerson(i + 3, 3), dues[i]);
        }
    }

    private static void soleOnes() {
        Blazonhall hall = Halls.withFounders(5);
        hall.born(0, 1);
        Check.due("no brother or sister", hall.ofPerson(5, 4), 1);
        hall.born(2, 3);
        Check.due("one of other parents", hall.ofPerson(5, 4), 1);
        hall.born(5, 4);
        Check.due("one's own child", hall.ofPerson(5, 4), 1);
        int[][] parents = {{0, 1}, {1, 0}, {0, 4}, {4, 0}, {1, 4}, {4, 1}, {0, 5}, {5, 1}};
        for (int[] both : parents) {
            Blazonhall other = Halls.withFounders(5);
            other.born(0, 1);
            other.born(both[0], both[1]);
            Check.due("beside one of " + both[0] + " " + both[1], other.ofPerson(5, 4), 0);
            Check.due("the later one", other.ofPerson(6, 4), 0);
        }
    }

    private static void foundersAreSole() {
        Blazonhall hall = Halls.withFounders(3);
        hall.born(0, 1);
        hall.born(0, 2);
        hall.born(0, 1);
        for (int founder = 0; founder < 3; founder++) {
            Check.due("founder " + founder, hall.ofPerson(founder, 4), 1);
        }
        hall.born(3, 0);
        Check.due("a founder is other parent for the 4th time", hall.ofPerson(6, 5), 1);
    }

    /** Arms 0 plain Azure, 1 plain Vert; founders 0 of Azure, 1 and 2 of Vert. */
    private static Blazonhall azureAndVert() {
        Blazonhall hall = new Blazonhall();
        hall.field(0, AZURE, AZURE);
        hall.field(0, VERT, VERT);
        hall.founder(0);
        hall.founder(1);
        hall.founder(1);
        return hall;
    }

    private static void quarteredOfASoleOne() {
        Blazonhall drawn = new Blazonhall();
        drawn.field(4, OR, GULES);
        drawn.field(5, AZURE, ARGENT);
        drawn.founder(0);
        drawn.founder(1);
        drawn.born(0, 1);
        Check.due("quartered", Halls.borne(drawn, 2), "OOOOZAZA GOOOAZAZ GGOOZAZA GGGOAZAZ "
                + "ZAZAOOOO AZAZGOOO ZAZAGGOO AZAZGGGO");

        Blazonhall hall = azureAndVert();
        hall.born(1, 0);
        hall.born(2, 3);
        Check.due("the other one was sole", hall.ofPerson(4, 5), 1);
        hall.born(1, 2);
        Check.due("the other one is sole no more", hall.ofPerson(3, 4), 0);
        Check.due("for good", hall.ofPerson(4, 5), 1);
        // 3 bears VVZZ ZZVV, so its quarters at half the size are VVZZ as well.
        Check.due("for good", hall.row(4, 0), "VVVVVVZZ");
        Check.due("for good", hall.row(4, 7), "ZZVVVVVV");

        Blazonhall once = azureAndVert();
        once.born(1, 0);
        once.born(1, 3);
        Check.due("the child itself ends it, but was not there ahead", once.ofPerson(4, 5), 1);
        Check.due("now it is no more", once.ofPerson(3, 4), 0);
        once.born(2, 3);
        Check.due("no more for the next", once.ofPerson(5, 5), 0);
    }

    private static void asTheFirstParent() {
        Blazonhall hall = azureAndVert();
        hall.born(1, 0);
        hall.born(1, 0);
        hall.born(0, 3);
        Check.due("the other one was not sole", hall.ofPerson(5, 5), 0);
        Check.due("all of the first one's", Halls.borne(hall, 5), Halls.times(BLANK, 8));
        hall.grant(0, 1);
        Check.due("whatever it becomes later", hall.row(5, 7), "VVVVVVVV");
    }

    private static void marks() {
        Blazonhall hall = azureAndVert();
        for (int rank = 1; rank <= 9; rank++) {
            int child = hall.born(1, 2);
            String due = rank == 1 ? "VVVVVVVV" : rank % 2 == 1 ? "VVVSSVVV" : "VVVOOVVV";
            Check.due("the mark of rank " + rank, hall.row(child, 1), due);
            Check.due("above it", hall.row(child, 0), "VVVVVVVV");
            Check.due("below it", hall.row(child, 2), "VVVVVVVV");
        }
    }

    private static void noMarkOfRankOne() {
        Blazonhall hall = azureAndVert();
        hall.born(0, 1);
        Check.due("of the first one", hall.row(3, 1), "ZZZZVVVV");
        hall.born(0, 1);
        hall.born(1, 0);
        Check.due("of the first one of another first parent", hall.row(5, 1), "VVVVZZZZ");
        hall.born(2, 3);
        Check.due("of what the first parent bears", hall.row(6, 1), "VVVVVVVV");
    }

    private static void marksOfParents() {
        Blazonhall hall = azureAndVert();
        hall.born(1, 0);
        hall.born(1, 0);
        hall.born(4, 3);
        Check.due("a parent's mark is borne too", hall.row(5, 1), "VVVOOZZZ");
        hall.born(4, 3);
        hall.born(4, 3);
        Check.due("one's own lies over it", hall.row(7, 1), "VVVSSZZZ");
        hall.born(2, 0);
        hall.born(8, 4);
        Check.due("quartered of a founder", hall.row(8, 1), "VVVVZZZZ");
        hall.grant(0, 1);
        Check.due("whatever that becomes later", hall.row(5, 1), "VVVOOVVV");
        hall.grant(1, 0);
        Check.due("whatever that becomes later", hall.row(5, 1), "ZZZOOVVV");
        hall.ordinary(1, 6, ARGENT);
        Check.due("arms that change later", hall.row(5, 0), "ZZZZAAAA");
    }

    private static void grantedAtAnyTime() {
        Blazonhall hall = azureAndVert();
        Check.due("at once", hall.grant(0, 1), 0);
        Check.due("back", hall.grant(0, 0), 1);
        hall.born(0, 1);
        Check.due("as a parent", hall.grant(0, 1), 0);
        Check.due("then the child's are other ones", hall.row(3, 0), "VVVVVVVV");
        while (hall.many(1) < 12) {
            hall.founder(0);
        }
        Check.due("with twelve people", hall.grant(11, 1), 0);
        Check.due("with twelve people", hall.row(11, 0), "VVVVVVVV");
        Check.due("the last arms", hall.grant(11, hall.impale(1, 0)), 1);
        Check.due("arms that came later", hall.row(11, 0), "VVVVZZZZ");
        Check.due("a 13th grant of the same", hall.grant(11, 2), 2);
    }

    private static void bell() {
        Blazonhall hall = Halls.small();
        Check.due("none", hall.many(6), 0);
        for (int i = 1; i < 20; i++) {
            Check.due("ring", hall.ring(), i);
            Check.due("refused", hall.many(6), i);
        }
        Check.due("holds nothing", hall.many(0) * 100 + hall.many(1), 303);
    }

    // ---- the sentences on exceptions

    private static void exceptions(Edges edges) {
        edges.edge("A method that throws an exception changes nothing.",
                TermsEdgeTest::refusalsChangeNothing);
        edges.edge("If several exceptions apply, the one that is named first is thrown.",
                TermsEdgeTest::firstNamedIsThrown);
        edges.edge("---- what would be (nothing is changed)", TermsEdgeTest::askingChangesNothing);
    }

    private static void askingChangesNothing() {
        for (Blazonhall hall : new Blazonhall[] {Halls.small(), Halls.full()}) {
            String before = Halls.told(hall);
            for (int i = 0; i < 3; i++) {
                hall.nearest(i);
                hall.would(i, (i + 1) % 3, 3, 1);
                hall.best(i / 2, i % 2 == 0);
                hall.digest();
            }
            Check.due("nothing is changed", Halls.told(hall), before);
        }
    }

    private static void refusalsChangeNothing() {
        Blazonhall hall = Halls.small();
        hall.ring();
        String before = Halls.told(hall);
        refuseTelling(hall);
        refuseAsking(hall);
        Check.due("nothing changed", Halls.told(hall), before);

        Blazonhall full = Halls.full();
        String told = Halls.told(full);
        Check.state("field", () -> full.field(1, 1, 1));
        Check.state("impale", () -> full.impale(0, 1));
        Check.state("quarter", () -> full.quarter(0, 1, 0, 1));
        Check.state("over", () -> full.over(1, 0));
        Check.state("founder", () -> full.founder(1));
        Check.state("born", () -> full.born(0, 1));
        Check.due("nothing changed, full", Halls.told(full), told);
    }

    private static void refuseTelling(Blazonhall hall) {
        Check.argument("field", () -> hall.field(6, 1, 1));
        Check.argument("field", () -> hall.field(1, 8, 1));
        Check.argument("field", () -> hall.field(1, 1, 8));
        Check.index("ordinary", () -> hall.ordinary(3, 7, 7));
        Check.argument("ordinary", () -> hall.ordinary(0, 8, 7));
        Check.argument("ordinary", () -> hall.ordinary(0, 7, 8));
        Check.state("ordinary", () -> hall.ordinary(2, 7, 7));
        Check.index("charge", () -> hall.charge(3, 5, 3, 7));
        Check.argument("charge", () -> hall.charge(0, 6, 3, 7));
        Check.argument("charge", () -> hall.charge(0, 5, 4, 7));
        Check.argument("charge", () -> hall.charge(0, 5, 3, 8));
        Check.state("charge", () -> hall.charge(2, 5, 3, 7));
        Check.index("impale", () -> hall.impale(3, 0));
        Check.index("impale", () -> hall.impale(0, 3));
        Check.index("quarter", () -> hall.quarter(0, 0, 0, 3));
        Check.index("over", () -> hall.over(3, 0));
        Check.index("over", () -> hall.over(0, 3));
        Check.index("founder", () -> hall.founder(3));
        Check.index("born", () -> hall.born(3, 0));
        Check.index("born", () -> hall.born(0, 3));
        Check.argument("born", () -> hall.born(1, 1));
        Check.index("grant", () -> hall.grant(3, 1));
        Check.index("grant", () -> hall.grant(0, 3));
        Check.state("grant", () -> hall.grant(2, 1));
    }

    private static void refuseAsking(Blazonhall hall) {
        Check.index("at", () -> hall.at(0, 0, 8));
        Check.index("bears", () -> hall.bears(0, 8, 0));
        Check.argument("ofArms", () -> hall.ofArms(0, 8));
        Check.argument("ofPerson", () -> hall.ofPerson(0, 8));
        Check.index("blazon", () -> hall.blazon(3));
        Check.index("row", () -> hall.row(0, 8));
        Check.argument("share", () -> hall.share(0, 8));
        Check.argument("many", () -> hall.many(8));
        Check.index("apart", () -> hall.apart(0, 3));
        Check.index("nearest", () -> hall.nearest(3));
        Check.index("would", () -> hall.would(0, 1, 8, 0));
        Check.argument("would", () -> hall.would(1, 1, 0, 0));
        Check.index("best", () -> hall.best(3, true));
        Check.state("best", () -> hall.best(2, true));
    }

    private static void firstNamedIsThrown() {
        Blazonhall full = Halls.full();
        Check.argument("field", () -> full.field(6, 0, 0));
        Check.argument("field", () -> full.field(0, 8, 0));
        Check.argument("field", () -> full.field(0, 0, 8));
        Check.index("impale", () -> full.impale(10, 0));
        Check.index("impale", () -> full.impale(0, 10));
        for (int place = 0; place < 4; place++) {
            int[] shown = {0, 0, 0, 0};
            shown[place] = 10;
            Check.index("quarter", () -> full.quarter(shown[0], shown[1], shown[2], shown[3]));
        }
        Check.index("over", () -> full.over(10, 0));
        Check.index("over", () -> full.over(0, 10));
        Check.index("founder", () -> full.founder(10));
        Check.index("born, no such one ahead of the same", () -> full.born(12, 12));
        Check.index("born, no such one ahead of twelve", () -> full.born(0, 12));
        Check.argument("born, the same ahead of twelve", () -> full.born(11, 11));

        Blazonhall hall = Halls.small();
        Check.index("ordinary, arms ahead of ordinary", () -> hall.ordinary(3, 8, 0));
        Check.index("ordinary, arms ahead of tincture", () -> hall.ordinary(3, 0, 8));
        Check.argument("ordinary, ahead of simple", () -> hall.ordinary(2, 8, 0));
        Check.argument("tincture, ahead of simple", () -> hall.ordinary(2, 0, 8));
        Check.index("charge, arms ahead of all", () -> hall.charge(3, 6, 4, 8));
        Check.argument("kind, ahead of simple", () -> hall.charge(2, 6, 0, 0));
        Check.argument("number, ahead of simple", () -> hall.charge(2, 0, 4, 0));
        Check.argument("tincture, ahead of simple", () -> hall.charge(2, 0, 0, 8));
        Check.index("born, no such one ahead of the same", () -> hall.born(3, 3));
        Check.index("grant, arms ahead of founder", () -> hall.grant(2, 3));
        Check.index("ofArms", () -> hall.ofArms(3, 8));
        Check.index("ofPerson", () -> hall.ofPerson(3, 8));
        Check.index("share", () -> hall.share(3, 8));
        Check.index("would, no such one ahead of the same", () -> hall.would(3, 3, 0, 0));
        Check.index("would, x ahead of the same", () -> hall.would(1, 1, 8, 0));
        Check.index("would, y ahead of the same", () -> hall.would(1, 1, 0, -1));
    }
}
