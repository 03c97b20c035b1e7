import java.math.BigInteger;

/** The sentences of promises 12 to 24 that name an edge, each with a test of its own. */
public final class AskingEdgeTest {
    private static final int OR = 0;
    private static final int ARGENT = 1;
    private static final int GULES = 2;
    private static final int AZURE = 3;
    private static final int SABLE = 4;
    private static final int VERT = 5;
    private static final int PURPURE = 6;
    private static final int ERMINE = 7;
    private static final String NO_ARMS = "Throws `IndexOutOfBoundsException` if there are no such "
            + "ARMS";
    private static final String NO_PERSON = "Throws `IndexOutOfBoundsException` if there is no "
            + "such one";
    private static final String NO_QUESTION = "Throws `IllegalArgumentException` if what is not 0 "
            + "to 7";

    private AskingEdgeTest() {
    }

    public static void main(String[] args) {
        Edges edges = new Edges("AskingEdgeTest");
        promiseAt(edges);
        promiseBears(edges);
        promiseOfArms(edges);
        promiseOfPerson(edges);
        promiseBlazon(edges);
        promiseRow(edges);
        promiseShare(edges);
        promiseMany(edges);
        promiseApart(edges);
        promiseNearest(edges);
        promiseWould(edges);
        promiseBest(edges);
        promiseDigest(edges);
        edges.finish();
    }

    // ---- promises 12 and 13

    private static void promiseAt(Edges edges) {
        edges.under("Promise 12: at");
        edges.edge("Returns the TINCTURE there.", () -> {
            Blazonhall hall = Halls.simple(0, AZURE, OR, 7, OR, 1, ERMINE);
            Check.due("in each corner", hall.at(0, 0, 0) + hall.at(0, 7, 0) + hall.at(0, 0, 7)
                    + hall.at(0, 7, 7), 0);
            Check.due("field", hall.at(0, 1, 6), AZURE);
            Check.due("charge", hall.at(0, 3, 4), ERMINE);
        });
        edges.edge(NO_ARMS + ", or x or y is not 0 to 7", () -> {
            Halls.needArms("at", (hall, i) -> hall.at(i, 7, 7));
            for (int arms = 0; arms < 3; arms++) {
                int of = arms;
                Halls.needUpTo("x of " + of, 7, Check.INDEX, (hall, i) -> hall.at(of, i, 0));
                Halls.needUpTo("y of " + of, 7, Check.INDEX, (hall, i) -> hall.at(of, 0, i));
            }
        });
    }

    private static void promiseBears(Edges edges) {
        edges.under("Promise 13: bears");
        edges.edge("Returns the TINCTURE there of what that one bears.", () -> {
            Blazonhall hall = Halls.small();
            Check.due("a founder", hall.bears(0, 7, 7), AZURE);
            Check.due("another", hall.bears(1, 7, 7), ARGENT);
            Check.due("the last corner of the child's", hall.bears(2, 7, 7), AZURE);
            Check.due("a corner of the other parent's", hall.bears(2, 7, 0), OR);
            Check.due("the other corner", hall.bears(2, 0, 7), VERT);
        });
        edges.edge(NO_PERSON + ", or x or y is not 0 to 7", () -> {
            Halls.needPerson("bears", (hall, i) -> hall.bears(i, 7, 7));
            for (int person = 0; person < 3; person++) {
                int of = person;
                Halls.needUpTo("x of " + of, 7, Check.INDEX, (hall, i) -> hall.bears(of, i, 0));
                Halls.needUpTo("y of " + of, 7, Check.INDEX, (hall, i) -> hall.bears(of, 0, i));
            }
        });
    }

    // ---- promise 14

    private static void promiseOfArms(Edges edges) {
        edges.under("Promise 14: ofArms");
        edges.edge("0 how they are made (0 SIMPLE, 1 IMPALED, 2 QUARTERED, 3 with one OVER)",
                AskingEdgeTest::waysToMake);
        edges.edge("1 the DIVISION, 2 the ORDINARY, 3 the KIND of CHARGES, 4 their NUMBER",
                AskingEdgeTest::partsOfSimpleArms);
        edges.edge("1 to 4: NONE, if they are not SIMPLE", () -> {
            Blazonhall hall = ofEachSort();
            for (int arms = 1; arms < 4; arms++) {
                for (int what = 1; what < 5; what++) {
                    Check.due(what + " of " + arms, hall.ofArms(arms, what), -1);
                }
            }
        });
        edges.edge("3: NONE without CHARGES", () -> {
            Blazonhall hall = new Blazonhall();
            hall.field(0, AZURE, OR);
            Check.due("never told", hall.ofArms(0, 3), -1);
            hall.charge(0, 5, 0, OR);
            Check.due("a kind, but none", hall.ofArms(0, 3), -1);
            hall.charge(0, 0, 1, OR);
            Check.due("kind 0", hall.ofArms(0, 3), 0);
            hall.charge(0, 0, 0, OR);
            Check.due("no more", hall.ofArms(0, 3), -1);
        });
        edges.edge("5 FAULTS", () -> {
            Blazonhall hall = Halls.simple(0, AZURE, OR, 1, GULES, 3, SABLE);
            Check.due("two", hall.ofArms(0, 5), 2);
            for (int i = 0; i < 9; i++) {
                hall.quarter(i, i, i, i);
            }
            Check.due("the most", hall.ofArms(9, 5), 2 << 18);
            hall.ordinary(0, 0, OR);
            Check.due("half of them", hall.ofArms(9, 5), 1 << 18);
            hall.charge(0, 0, 0, OR);
            Check.due("none", hall.ofArms(9, 5), 0);
        });
        edges.edge("6 the set of TINCTURES that are to be seen", AskingEdgeTest::tincturesSeen);
        edges.edge("7 how many FOUNDERS bear them", () -> {
            Blazonhall hall = Halls.withFounders(2);
            hall.field(0, AZURE, OR);
            hall.impale(0, 0);
            hall.born(0, 1);
            Check.due("founders alone", hall.ofArms(0, 7), 2);
            Check.due("that look alike", hall.ofArms(1, 7), 0);
            Check.due("that show them", hall.ofArms(2, 7), 0);
            hall.grant(1, 2);
            Check.due("one fewer", hall.ofArms(0, 7), 1);
            Check.due("one more", hall.ofArms(2, 7), 1);
            while (hall.many(1) < 12) {
                hall.founder(1);
            }
            Check.due("nine", hall.ofArms(1, 7), 9);
        });
        edges.edge(NO_ARMS, () -> Halls.needArms("ofArms", (hall, i) -> hall.ofArms(i, 5)));
        edges.edge(NO_QUESTION, () -> {
            for (int arms = 0; arms < 3; arms++) {
                int of = arms;
                Halls.needUpTo("what", 7, Check.ARGUMENT, (hall, i) -> hall.ofArms(of, i));
            }
        });
    }

    private static void waysToMake() {
        Blazonhall hall = ofEachSort();
        for (int made = 0; made < 4; made++) {
            Check.due("made", hall.ofArms(made, 0), made);
        }
    }

    /** Arms 0 simple, 1 impaled, 2 quartered, 3 with one over. */
    private static Blazonhall ofEachSort() {
        Blazonhall hall = Halls.simple(5, AZURE, OR, 3, OR, 2, ERMINE);
        hall.impale(0, 0);
        hall.quarter(0, 1, 0, 1);
        hall.over(2, 1);
        return hall;
    }

    private static void partsOfSimpleArms() {
        Blazonhall hall = new Blazonhall();
        for (int division = 0; division < 6; division++) {
            hall.field(division, AZURE, OR);
            Check.due("division", hall.ofArms(division, 1), division);
            for (int number = 1; number < 4; number++) {
                hall.charge(division, 5 - division, number, OR);
                Check.due("kind", hall.ofArms(division, 3), 5 - division);
                Check.due("number", hall.ofArms(division, 4), number);
            }
        }
        for (int ordinary = 7; ordinary >= 0; ordinary--) {
            hall.ordinary(5, ordinary, OR);
            Check.due("ordinary", hall.ofArms(5, 2), ordinary);
        }
    }

    private static void tincturesSeen() {
        Blazonhall hall = Halls.simple(0, AZURE, OR, 0, GULES, 0, SABLE);
        Check.due("neither a second one nor what is not there", hall.ofArms(0, 6), 1 << AZURE);
        hall.field(5, AZURE, AZURE);
        Check.due("the same twice", hall.ofArms(1, 6), 1 << AZURE);
        hall.field(3, AZURE, AZURE);
        hall.charge(2, 0, 1, OR);
        hall.impale(2, 2);
        Check.due("at one point in each half", hall.ofArms(3, 6), 9);
        hall.quarter(2, 0, 0, 0);
        Check.due("one point alone is seen", hall.ofArms(4, 6), 9);
        hall.over(2, 1);
        Check.due("what lies beneath is not seen", hall.ofArms(5, 6), 8);
        hall.charge(2, 0, 3, OR);
        Check.due("but what stands out is", hall.ofArms(5, 6), 9);
        cornersAreSeen();
    }

    /** Each quartering leaves half of the bend, until it is one corner of the shield alone. */
    private static void cornersAreSeen() {
        Blazonhall hall = Halls.simple(0, AZURE, AZURE, 3, OR, 0, OR);
        hall.field(0, AZURE, AZURE);
        hall.quarter(0, 1, 1, 1);
        hall.quarter(2, 1, 1, 1);
        hall.quarter(3, 1, 1, 1);
        Check.due("at (0, 0)", hall.at(4, 0, 0), OR);
        Check.due("there alone", hall.share(4, OR), 1 / 64.0);
        Check.due("the first point is seen", hall.ofArms(4, 6), 9);
        hall.quarter(1, 1, 1, 0);
        hall.quarter(1, 1, 1, 5);
        hall.quarter(1, 1, 1, 6);
        Check.due("at (7, 7)", hall.at(7, 7, 7), OR);
        Check.due("there alone", hall.share(7, OR), 1 / 64.0);
        Check.due("the last point is seen", hall.ofArms(7, 6), 9);
    }

    // ---- promise 15

    private static void promiseOfPerson(Edges edges) {
        edges.under("Promise 15: ofPerson");
        edges.edge("0 the ARMS of a FOUNDER (NONE of one who is BORN)", () -> {
            Blazonhall hall = Halls.full();
            Check.due("arms 0", hall.ofPerson(0, 0), 0);
            Check.due("arms 1", hall.ofPerson(1, 0), 1);
            Check.due("born", hall.ofPerson(2, 0), -1);
            hall.grant(11, 9);
            Check.due("granted", hall.ofPerson(11, 0), 9);
        });
        edges.edge("(1 and 2: NONE of a FOUNDER)", () -> {
            Blazonhall hall = Halls.small();
            hall.born(2, 1);
            int[][] dues = {{-1, -1}, {-1, -1}, {0, 1}, {2, 1}};
            for (int person = 0; person < 4; person++) {
                Check.due("first", hall.ofPerson(person, 1), dues[person][0]);
                Check.due("other", hall.ofPerson(person, 2), dues[person][1]);
            }
        });
        edges.edge("3 RANK (0 of a FOUNDER)", () -> {
            Blazonhall hall = Halls.withFounders(2);
            for (int rank = 1; rank <= 10; rank++) {
                int child = hall.born(0, 1);
                Check.due("rank", hall.ofPerson(child, 3), rank);
            }
            Check.due("of a founder", hall.ofPerson(0, 3), 0);
            Check.due("of a founder", hall.ofPerson(1, 3), 0);
        });
        edges.edge("4 1 if SOLE now, otherwise 0", () -> {
            Blazonhall hall = Halls.small();
            Check.due("sole", hall.ofPerson(2, 4), 1);
            hall.founder(0);
            hall.born(3, 2);
            Check.due("told as sole", hall.ofPerson(4, 5), 1);
            hall.born(3, 1);
            Check.due("not now", hall.ofPerson(2, 4) + hall.ofPerson(4, 4), 0);
            Check.due("a founder", hall.ofPerson(3, 4), 1);
        });
        edges.edge("5 1 if that one bears the FIRST parent's and the OTHER one's QUARTERED, "
                + "otherwise 0", () -> {
            Blazonhall hall = Halls.small();
            Check.due("a founder", hall.ofPerson(0, 5), 0);
            Check.due("quartered", hall.ofPerson(2, 5), 1);
            Check.due("also with a mark", hall.ofPerson(hall.born(0, 1), 5), 1);
            Check.due("of one who is not sole", hall.ofPerson(hall.born(1, 3), 5), 0);
            hall.grant(0, 1);
            Check.due("also of the same arms", hall.ofPerson(2, 5), 1);
        });
        edges.edge("6 children (of whom that one is one of both parents)", () -> {
            Blazonhall hall = Halls.withFounders(3);
            hall.born(0, 1);
            hall.born(1, 0);
            hall.born(0, 3);
            int[] dues = {3, 2, 0, 1, 0, 0};
            for (int person = 0; person < 6; person++) {
                Check.due("children of " + person, hall.ofPerson(person, 6), dues[person]);
            }
        });
        edges.edge("7 how many generations there are above (0 of a FOUNDER; 1 more than the "
                + "greater one of both parents)", () -> {
            Blazonhall hall = Halls.withFounders(2);
            Check.due("a founder", hall.ofPerson(1, 7), 0);
            for (int i = 2; i < 12; i++) {
                int child = i % 2 == 0 ? hall.born(0, i - 1) : hall.born(i - 1, 1);
                Check.due("above " + child, hall.ofPerson(child, 7), i - 1);
            }
            Check.due("a founder still", hall.ofPerson(1, 7), 0);
        });
        edges.edge(NO_PERSON, () -> Halls.needPerson("ofPerson", (hall, i) -> hall.ofPerson(i, 7)));
        edges.edge(NO_QUESTION, () -> {
            for (int person = 0; person < 3; person++) {
                int of = person;
                Halls.needUpTo("what", 7, Check.ARGUMENT, (hall, i) -> hall.ofPerson(of, i));
            }
        });
    }

    // ---- promise 16

    private static void promiseBlazon(Edges edges) {
        edges.under("Promise 16: blazon");
        edges.edge("plain: the FIRST TINCTURE's name", () -> {
            blazonIs("Ermine", 0, ERMINE, OR, 0, OR, 0, OR);
            blazonIs("Or", 0, OR, OR, 0, VERT, 0, VERT);
        });
        edges.edge("of another DIVISION", () -> {
            String[] names = {"Per pale ", "Per fess ", "Quarterly ", "Per bend ", "Chequy "};
            for (int i = 0; i < 5; i++) {
                blazonIs(names[i] + "Gules and Or", i + 1, GULES, OR, 0, OR, 0, OR);
                blazonIs(names[i] + "Or and Or", i + 1, OR, OR, 0, OR, 0, OR);
            }
        });
        edges.edge("then, with an ORDINARY: \", a \"", () -> {
            blazonIs("Azure, a pale Argent", 0, AZURE, OR, 1, ARGENT, 0, OR);
            blazonIs("Per pale Azure and Or, a bordure Sable", 1, AZURE, OR, 7, SABLE, 0, OR);
            blazonIs("Azure", 0, AZURE, OR, 0, ARGENT, 0, OR);
        });
        edges.edge("its name as in section 2", () -> {
            String[] names = {"pale", "fess", "bend", "cross", "saltire", "chief", "bordure"};
            for (int i = 0; i < 7; i++) {
                blazonIs("Vert, a " + names[i] + " Or", 0, VERT, OR, i + 1, OR, 0, OR);
                blazonIs("Vert, a " + names[i] + " Or, two lions Argent", 0, VERT, OR, i + 1, OR, 2,
                        ARGENT);
            }
        });
        edges.edge("then, with CHARGES: \", \"", () -> {
            blazonIs("Azure, a lion Purpure", 0, AZURE, OR, 0, OR, 1, PURPURE);
            blazonIs("Azure, a pale Or, a lion Vert", 0, AZURE, OR, 1, OR, 1, VERT);
            blazonIs("Azure, a pale Or", 0, AZURE, OR, 1, OR, 0, VERT);
        });
        edges.edge("\"a \" (\"an \" of an eagle) or \"two \" or \"three \"",
                AskingEdgeTest::articlesOfCharges);
        edges.edge("with two or three \"s\"", () -> {
            blazonIs("Azure, a lion Or", 0, AZURE, OR, 0, OR, 1, OR);
            blazonIs("Azure, two lions Or", 0, AZURE, OR, 0, OR, 2, OR);
            blazonIs("Azure, three lions Or", 0, AZURE, OR, 0, OR, 3, OR);
        });
        putTogetherInWords(edges);
        edges.edge("All of that is cut behind its 200th sign (blanks too).",
                AskingEdgeTest::cutBehindTheLastSign);
        edges.edge(NO_ARMS, () -> Halls.needArms("blazon", (hall, i) -> hall.blazon(i)));
    }

    private static void blazonIs(String due, int division, int first, int second, int ordinary,
            int onOrdinary, int number, int onCharges) {
        Blazonhall hall = Halls.simple(division, first, second, ordinary, onOrdinary, number,
                onCharges);
        Check.due("blazon", hall.blazon(0), due);
    }

    private static void articlesOfCharges() {
        String[] names = {"lion", "eagle", "rose", "star", "boar", "tower"};
        for (int kind = 0; kind < 6; kind++) {
            Blazonhall hall = new Blazonhall();
            hall.field(0, OR, OR);
            hall.charge(0, kind, 1, GULES);
            Check.due("one", hall.blazon(0), (kind == 1 ? "Or, an " : "Or, a ") + names[kind]
                    + " Gules");
            hall.charge(0, kind, 2, GULES);
            Check.due("two", hall.blazon(0), "Or, two " + names[kind] + "s Gules");
            hall.charge(0, kind, 3, GULES);
            Check.due("three", hall.blazon(0), "Or, three " + names[kind] + "s Gules");
        }
    }

    private static void putTogetherInWords(Edges edges) {
        edges.edge("Of IMPALED ones: \"[\"", () -> {
            Blazonhall hall = threeInWords();
            hall.impale(0, 1);
            hall.impale(3, 2);
            Check.due("impaled", hall.blazon(3), "[Or impaling Gules, a pale Vert]");
            Check.due("again", hall.blazon(4), "[[Or impaling Gules, a pale Vert] impaling "
                    + "Ermine]");
            hall.ordinary(1, 0, OR);
            Check.due("later", hall.blazon(4), "[[Or impaling Gules] impaling Ermine]");
        });
        edges.edge("Of QUARTERED ones: \"[1 \"", () -> {
            Blazonhall hall = threeInWords();
            hall.quarter(0, 1, 2, 0);
            hall.quarter(2, 0, 0, 0);
            hall.quarter(4, 0, 0, 2);
            Check.due("quartered", hall.blazon(3), "[1 Or; 2 Gules, a pale Vert; 3 Ermine; 4 Or]");
            Check.due("again", hall.blazon(5), "[1 [1 Ermine; 2 Or; 3 Or; 4 Or]; 2 Or; 3 Or; 4 "
                    + "Ermine]");
        });
        edges.edge("Of those with one OVER: \"[\"", () -> {
            Blazonhall hall = threeInWords();
            hall.over(0, 1);
            hall.over(2, 3);
            Check.due("over", hall.blazon(3), "[Or, over all Gules, a pale Vert]");
            Check.due("again", hall.blazon(4), "[Ermine, over all [Or, over all Gules, a pale "
                    + "Vert]]");
        });
    }

    /** Arms 0 Or, 1 Gules with a pale Vert, 2 Ermine. */
    private static Blazonhall threeInWords() {
        Blazonhall hall = new Blazonhall();
        hall.field(0, OR, OR);
        hall.field(0, GULES, OR);
        hall.ordinary(1, 1, VERT);
        hall.field(0, ERMINE, OR);
        return hall;
    }

    private static void cutBehindTheLastSign() {
        String longest = "Quarterly Argent and Argent, a bordure Argent";
        String ahead = "[1 " + longest + "; 2 " + longest + "; 3 " + longest + "; 4 ";
        String[] fourths = {"Quarterly Argent and Argent, three lions Argent",
            "Quarterly Argent and Argent, three lions Purpure",
            "Quarterly Argent and Argent, three eagles Purpure",
            "Quarterly Argent and Purpure, three eagles Purpure"};
        int[][] told = {{ARGENT, 0, ARGENT}, {ARGENT, 0, PURPURE}, {ARGENT, 1, PURPURE},
            {PURPURE, 1, PURPURE}};
        for (int i = 0; i < 4; i++) {
            Blazonhall hall = Halls.simple(3, ARGENT, ARGENT, 7, ARGENT, 0, OR);
            hall.field(3, ARGENT, told[i][0]);
            hall.charge(1, told[i][1], 3, told[i][2]);
            hall.quarter(0, 0, 0, 1);
            hall.impale(2, 0);
            String whole = ahead + fourths[i] + "]";
            Check.due("length by itself", whole.length(), 198 + i);
            Check.due("of " + (198 + i), hall.blazon(2), i < 3 ? whole : ahead + fourths[3]);
            String inFront = ("[" + whole + " impaling ").substring(0, 200);
            Check.due("the sign 200 of " + (198 + i), hall.blazon(3), inFront);
            Check.due("a blank is kept at the end", hall.blazon(3).charAt(199) == ' ', i == 0);
        }
        Blazonhall hall = Halls.withFounders(0);
        for (int i = 0; i < 9; i++) {
            hall.quarter(i, i, i, i);
        }
        Check.due("the longest of all", hall.blazon(9).length(), 200);
        Check.due("begins", hall.blazon(9).substring(0, 40),
                "[1 [1 [1 [1 [1 [1 [1 [1 [1 Azure; 2 Azur");
    }

    // ---- promise 17

    private static void promiseRow(Edges edges) {
        edges.under("Promise 17: row");
        edges.edge("from the left on, each TINCTURE as a letter: \"O\", \"A\", \"G\", \"Z\" "
                + "(Azure), \"S\", \"V\", \"P\", \"E\".", () -> {
            String letters = "OAGZSVPE";
            Blazonhall hall = new Blazonhall();
            for (int i = 0; i < 8; i++) {
                hall.field(1, i, (i + 1) % 8);
                hall.founder(i);
                String first = letters.substring(i, i + 1);
                String second = "" + letters.charAt((i + 1) % 8);
                Check.due("row 0", hall.row(i, 0), first.repeat(4) + second.repeat(4));
                Check.due("row 7", hall.row(i, 7), first.repeat(4) + second.repeat(4));
            }
            hall.charge(0, 0, 3, ERMINE);
            hall.ordinary(0, 6, PURPURE);
            String[] dues = {"PPPPPPPP", "PEEPPEEP", "OEEOAEEA", "OOOOAAAA", "OOOOAAAA", "OOOEEAAA",
                "OOOEEAAA", "OOOOAAAA"};
            for (int y = 0; y < 8; y++) {
                Check.due("row " + y, hall.row(0, y), dues[y]);
            }
        });
        edges.edge(NO_PERSON + ", or y is not 0 to 7", () -> {
            Halls.needPerson("row", (hall, i) -> hall.row(i, 7));
            Halls.needUpTo("y of a founder", 7, Check.INDEX, (hall, i) -> hall.row(0, i));
            Halls.needUpTo("y of a child", 7, Check.INDEX, (hall, i) -> hall.row(2, i));
        });
    }

    // ---- promise 18

    private static void promiseShare(Edges edges) {
        edges.under("Promise 18: share");
        edges.edge("Returns at how many POINTS it is, divided by 64.0.", () -> {
            Blazonhall hall = Halls.simple(0, AZURE, OR, 7, GULES, 1, OR);
            Check.due("field", hall.share(0, AZURE), 0.5);
            Check.due("ordinary", hall.share(0, GULES), 0.4375);
            Check.due("charge", hall.share(0, OR), 0.0625);
            Check.due("none", hall.share(0, SABLE), 0.0);
            hall.field(0, ERMINE, OR);
            Check.due("all", hall.share(1, ERMINE), 1.0);
            Check.due("none", hall.share(1, OR), 0.0);
            hall.quarter(0, 1, 1, 1);
            hall.quarter(1, 2, 1, 1);
            hall.quarter(3, 3, 3, 3);
            Check.due("one point of the charge", hall.share(2, OR), 0.015625);
            Check.due("one point of that", hall.share(3, OR), 0.015625);
            Check.due("not seen any more", hall.share(4, OR), 0.0);
        });
        edges.edge(NO_ARMS, () -> Halls.needArms("share", (hall, i) -> hall.share(i, 7)));
        edges.edge("Throws `IllegalArgumentException` if tincture is not 0 to 7", () ->
                Halls.needUpTo("tincture", 7, Check.ARGUMENT, (hall, i) -> hall.share(2, i)));
    }

    // ---- promise 19

    private static void promiseMany(Edges edges) {
        edges.under("Promise 19: many");
        edges.edge("0 ARMS, 1 PEOPLE, 2 FOUNDERS", () -> {
            Blazonhall hall = new Blazonhall();
            Check.due("none", hall.many(0) + hall.many(1) + hall.many(2), 0);
            Blazonhall full = Halls.full();
            Check.due("arms", full.many(0), 10);
            Check.due("people", full.many(1), 12);
            Check.due("founders", full.many(2), 11);
            full.grant(0, 9);
            Check.due("granted ones are no more", full.many(2), 11);
        });
        edges.edge("3 FAULTS of all ARMS together", () -> {
            Blazonhall hall = Halls.simple(0, AZURE, OR, 1, GULES, 3, SABLE);
            Check.due("of one", hall.many(3), 2);
            hall.impale(0, 0);
            Check.due("with those that show it", hall.many(3), 6);
            for (int i = 1; i < 9; i++) {
                hall.quarter(i, i, i, i);
            }
            int due = 2;
            for (int i = 0; i < 9; i++) {
                due += 4 << (2 * i);
            }
            Check.due("of ten", hall.many(3), due);
        });
        edges.edge("4 ARMS without FAULTS", () -> {
            Blazonhall hall = new Blazonhall();
            Check.due("none at all", hall.many(4), 0);
            hall.field(0, AZURE, OR);
            hall.impale(0, 0);
            hall.field(0, AZURE, OR);
            Check.due("all", hall.many(4), 3);
            hall.ordinary(0, 1, SABLE);
            Check.due("one alone", hall.many(4), 1);
            hall.charge(2, 0, 1, SABLE);
            Check.due("none", hall.many(4), 0);
            hall.ordinary(0, 1, OR);
            Check.due("two again", hall.many(4), 2);
        });
        edges.edge("5 pairs of PEOPLE (each once) who are 0 apart", () -> {
            Blazonhall hall = Halls.withFounders(0);
            hall.field(0, VERT, OR);
            Check.due("nobody", hall.many(5), 0);
            int[] dues = {0, 1, 3, 6, 10, 15, 21, 28, 36, 45, 55, 66};
            for (int i = 0; i < 12; i++) {
                hall.founder(0);
                Check.due("pairs of " + (i + 1), hall.many(5), dues[i]);
            }
            hall.grant(5, 1);
            Check.due("one is another", hall.many(5), 55);
            hall.grant(11, 1);
            Check.due("two are others", hall.many(5), 46);
        });
        edges.edge("6 how many were REFUSED", () -> {
            Blazonhall hall = new Blazonhall();
            Check.due("none", hall.many(6), 0);
            Check.argument("thrown is not refused", () -> hall.field(6, 0, 0));
            Check.due("none", hall.many(6), 0);
            hall.ring();
            hall.ring();
            Check.due("two", hall.many(6), 2);
        });
        edges.edge("7 the greatest number of generations above one (0 without PEOPLE)", () -> {
            Blazonhall hall = Halls.withFounders(0);
            Check.due("without people", hall.many(7), 0);
            hall.founder(0);
            hall.founder(0);
            Check.due("founders", hall.many(7), 0);
            for (int i = 2; i < 11; i++) {
                hall.born(i - 1, i - 2);
                Check.due("generations", hall.many(7), i - 1);
            }
            hall.founder(0);
            Check.due("a founder behind them", hall.many(7), 9);
        });
        edges.edge(NO_QUESTION, () ->
                Halls.needUpTo("what", 7, Check.ARGUMENT, (hall, i) -> hall.many(i)));
    }

    // ---- promise 20

    private static void promiseApart(Edges edges) {
        edges.under("Promise 20: apart");
        edges.edge("Returns at how many POINTS what they bear differs.", () -> {
            Blazonhall hall = apartByOne();
            Check.due("oneself", hall.apart(1, 1), 0);
            Check.due("one point", hall.apart(0, 1), 1);
            Check.due("one point, turned", hall.apart(1, 0), 1);
            Check.due("all points", hall.apart(0, 2), 64);
            Check.due("all points, turned", hall.apart(2, 0), 64);
            hall.born(0, 2);
            Check.due("half of them", hall.apart(3, 2), 32);
            hall.born(0, 2);
            Check.due("a mark", hall.apart(3, 4), 2);
            hall.grant(2, 0);
            Check.due("none any more", hall.apart(0, 2), 0);
        });
        edges.edge(NO_PERSON + ", of both", () -> {
            Halls.needPerson("one", (hall, i) -> hall.apart(i, 0));
            Halls.needPerson("other", (hall, i) -> hall.apart(0, i));
        });
    }

    /** Founders 0 of plain Azure, 1 of that with one point Or, 2 of plain Vert. */
    private static Blazonhall apartByOne() {
        Blazonhall hall = Halls.simple(0, AZURE, OR, 0, OR, 0, OR);
        hall.field(0, AZURE, OR);
        hall.charge(1, 0, 1, OR);
        hall.quarter(1, 0, 0, 0);
        hall.field(0, VERT, OR);
        hall.founder(0);
        hall.founder(2);
        hall.founder(3);
        return hall;
    }

    // ---- promise 21

    private static void promiseNearest(Edges edges) {
        edges.under("Promise 21: nearest");
        edges.edge("Returns who else bears what is the least apart from what that one bears",
                AskingEdgeTest::leastApart);
        edges.edge("of several the smallest number", () -> {
            Blazonhall hall = Halls.withFounders(4);
            int[] dues = {1, 0, 0, 0};
            for (int person = 0; person < 4; person++) {
                Check.due("of all the same", hall.nearest(person), dues[person]);
            }
            hall.field(0, VERT, OR);
            hall.grant(2, 1);
            Check.due("64 apart from each", hall.nearest(2), 0);
            hall.grant(0, 1);
            hall.grant(2, 0);
            Check.due("64 apart from each", hall.nearest(0), 1);
        });
        edges.edge("NONE, if there is nobody else.", () -> {
            Blazonhall hall = Halls.withFounders(1);
            Check.due("nobody else", hall.nearest(0), -1);
            hall.field(0, VERT, OR);
            hall.founder(1);
            Check.due("somebody, 64 apart", hall.nearest(0), 1);
        });
        edges.edge(NO_PERSON, () -> Halls.needPerson("nearest", (hall, i) -> hall.nearest(i)));
    }

    private static void leastApart() {
        Blazonhall hall = apartByOne();
        Check.due("by one point", hall.nearest(0), 1);
        Check.due("by one point", hall.nearest(1), 0);
        hall.founder(3);
        Check.due("by none", hall.nearest(2), 3);
        Check.due("never oneself", hall.nearest(3), 2);
        hall.grant(2, 2);
        Check.due("by none, behind one that is near", hall.nearest(1), 2);
        Check.due("by none, ahead", hall.nearest(2), 1);
    }

    // ---- promise 22

    private static void promiseWould(Edges edges) {
        edges.under("Promise 22: would");
        edges.edge("Returns the TINCTURE there of what one would bear who was BORN to them now",
                AskingEdgeTest::wouldBearAsBorn);
        edges.edge("(as if there could be more than 12)", () -> {
            Blazonhall hall = Halls.full();
            Check.due("the first parent's", hall.would(0, 1, 0, 0), AZURE);
            Check.due("the other one's", hall.would(0, 1, 4, 0), OR);
            Check.due("the mark", hall.would(0, 1, 3, 1), OR);
            Check.due("no mark", hall.would(3, 1, 3, 1), AZURE);
            Check.due("nobody came", hall.many(1), 12);
            Blazonhall many = Halls.withFounders(2);
            while (many.many(1) < 12) {
                many.born(0, 1);
            }
            Check.due("the mark of rank 11", many.would(0, 1, 4, 1), SABLE);
        });
        edges.edge(NO_PERSON + ", of both, or x or y is not 0 to 7", () -> {
            Halls.needPerson("first", (hall, i) -> hall.would(i, 1, 0, 0));
            Halls.needPerson("other", (hall, i) -> hall.would(1, i, 0, 0));
            Halls.needUpTo("x", 7, Check.INDEX, (hall, i) -> hall.would(0, 1, i, 1));
            Halls.needUpTo("y", 7, Check.INDEX, (hall, i) -> hall.would(0, 1, 3, i));
            Halls.needUpTo("x, not quartered", 7, Check.INDEX, (hall, i) -> hall.would(0, 2, i, 1));
            Halls.needUpTo("y, not quartered", 7, Check.INDEX, (hall, i) -> hall.would(0, 2, 3, i));
        });
        edges.edge("Throws `IllegalArgumentException` if both are the same", () -> {
            for (int i = 0; i < 3; i++) {
                int same = i;
                Blazonhall hall = Halls.small();
                Check.argument("twice", () -> hall.would(same, same, 7, 7));
                Check.answered("not the same", () -> hall.would(same, (same + 1) % 3, 7, 7));
            }
        });
    }

    private static void wouldBearAsBorn() {
        int[][] parents = {{0, 1}, {1, 0}, {2, 1}, {0, 2}, {1, 2}, {0, 1}};
        for (int[] both : parents) {
            Blazonhall hall = Halls.small();
            StringBuilder told = new StringBuilder();
            for (int point = 0; point < 64; point++) {
                told.append(hall.would(both[0], both[1], point % 8, point / 8));
            }
            Check.due("nobody came", hall.many(1), 3);
            hall.born(both[0], both[1]);
            StringBuilder came = new StringBuilder();
            for (int point = 0; point < 64; point++) {
                came.append(hall.bears(3, point % 8, point / 8));
            }
            Check.due("of " + both[0] + " and " + both[1], told.toString(), came.toString());
        }
        Blazonhall hall = Halls.small();
        Check.due("quartered of a sole one", hall.would(1, 2, 5, 7), VERT);
        Check.due("quartered of a sole one", hall.would(1, 2, 3, 7), AZURE);
        hall.born(0, 1);
        Check.due("not of one who is sole no more", hall.would(1, 2, 3, 7), VERT);
        Check.due("the mark of rank 3", hall.would(0, 1, 3, 1), SABLE);
        Check.due("beside it", hall.would(0, 1, 2, 1), AZURE);
        Check.due("no mark of the other parent's rank", hall.would(2, 0, 3, 1), ARGENT);
    }

    // ---- promise 23

    private static void promiseBest(Edges edges) {
        edges.under("Promise 23: best");
        edges.edge("Returns the TINCTURE that these would have to have so that FAULTS of the ARMS "
                + "were the fewest", AskingEdgeTest::bestHasTheFewestFaults);
        edges.edge("of several that by which the most TINCTURES would be seen",
                AskingEdgeTest::bestShowsTheMost);
        edges.edge("of several the smallest number", () -> {
            bestAre(GULES, -1, Halls.simple(0, OR, OR, 1, ARGENT, 0, OR));
            bestAre(OR, -1, Halls.simple(0, GULES, OR, 1, VERT, 0, OR));
            bestAre(-1, OR, Halls.simple(0, ERMINE, OR, 0, OR, 1, ERMINE));
            bestAre(-1, GULES, Halls.simple(0, ARGENT, OR, 0, OR, 2, ARGENT));
            bestAre(GULES, ARGENT, Halls.simple(0, OR, OR, 1, GULES, 3, AZURE));
        });
        edges.edge("NONE, if they have none of what is asked.", () -> {
            bestAre(-1, -1, Halls.simple(0, GULES, OR, 0, OR, 0, OR));
            bestAre(-1, OR, Halls.simple(0, GULES, OR, 0, OR, 1, SABLE));
            bestAre(OR, -1, Halls.simple(0, GULES, OR, 7, SABLE, 0, OR));
        });
        edges.edge(NO_ARMS, () -> {
            Halls.needArms("best", (hall, i) -> hall.best(i, true));
            Halls.needArms("best", (hall, i) -> hall.best(i, false));
        });
        edges.edge("Throws `IllegalStateException` if they are not SIMPLE", () -> {
            Blazonhall hall = ofEachSort();
            for (int i = 1; i < 4; i++) {
                int arms = i;
                Check.state("of the charges", () -> hall.best(arms, true));
                Check.state("of the ordinary", () -> hall.best(arms, false));
            }
            Check.answered("simple ones", () -> hall.best(0, true));
            Check.answered("simple ones", () -> hall.best(0, false));
        });
    }

    private static void bestAre(int ofOrdinary, int ofCharges, Blazonhall hall) {
        String before = Halls.told(hall);
        Check.due("best ordinary of " + hall.blazon(0), hall.best(0, false), ofOrdinary);
        Check.due("best charges of " + hall.blazon(0), hall.best(0, true), ofCharges);
        Check.due("nothing is changed", Halls.told(hall), before);
    }

    private static void bestHasTheFewestFaults() {
        bestAre(OR, -1, Halls.simple(0, GULES, OR, 1, GULES, 0, OR));
        bestAre(GULES, -1, Halls.simple(0, ARGENT, OR, 1, ARGENT, 0, OR));
        bestAre(OR, -1, Halls.simple(0, ERMINE, OR, 1, ERMINE, 0, OR));
        // Of a colour, the ordinary would leave the charges' fault: they lie on it alone.
        bestAre(ERMINE, ARGENT, Halls.simple(0, OR, OR, 1, GULES, 1, AZURE));
        // The ordinary's fault stays, whatever the charges are: the fewest are not none.
        bestAre(ERMINE, GULES, Halls.simple(0, OR, OR, 1, ARGENT, 1, VERT));
        for (int ordinary = 1; ordinary < 8; ordinary++) {
            for (int number = 1; number < 4; number++) {
                bestIsFoundByTrial(4, VERT, OR, ordinary, number);
                bestIsFoundByTrial(ordinary % 6, ARGENT, ERMINE, ordinary, number);
            }
        }
    }

    /** Tells the tinctures one behind another, on the same arms, and looks which one is best. */
    private static void bestIsFoundByTrial(int division, int first, int second, int ordinary,
            int number) {
        Blazonhall hall = new Blazonhall();
        hall.field(division, first, second);
        for (int kept = 0; kept < 8; kept += 3) {
            int[] found = {-1, -1};
            int[] least = {0, 0};
            for (int tincture = 0; tincture < 8; tincture++) {
                hall.charge(0, 0, number, kept);
                int faults = hall.ordinary(0, ordinary, tincture);
                take(found, least, 0, tincture, 100 * faults - seenOf(hall));
                hall.ordinary(0, ordinary, kept);
                faults = hall.charge(0, 0, number, tincture);
                take(found, least, 1, tincture, 100 * faults - seenOf(hall));
            }
            hall.charge(0, 0, number, kept);
            Check.due("best ordinary of " + hall.blazon(0), hall.best(0, false), found[0]);
            Check.due("best charges of " + hall.blazon(0), hall.best(0, true), found[1]);
        }
    }

    private static int seenOf(Blazonhall hall) {
        return Integer.bitCount(hall.ofArms(0, 6));
    }

    private static void take(int[] found, int[] least, int of, int tincture, int rating) {
        if (found[of] < 0 || rating < least[of]) {
            found[of] = tincture;
            least[of] = rating;
        }
    }

    private static void bestShowsTheMost() {
        // Or and Gules are seen already: Argent is the first that can lie there and is new.
        bestAre(ARGENT, -1, Halls.simple(1, GULES, OR, 2, GULES, 0, OR));
        // Gules is the charges' already, so of the colours Azure shows more.
        bestAre(AZURE, ARGENT, Halls.simple(0, OR, OR, 6, GULES, 3, GULES));
        // Each one's Or is the other one's already.
        bestAre(ARGENT, ARGENT, Halls.simple(0, GULES, OR, 1, OR, 2, OR));
        // Gules, Or and Argent are seen already, and so Azure is the first that is new.
        bestAre(AZURE, ARGENT, Halls.simple(3, GULES, OR, 7, SABLE, 3, ARGENT));
        // An ordinary that is there no more is not seen, nor is one that charges have left.
        Blazonhall hall = Halls.simple(0, AZURE, OR, 1, OR, 2, ARGENT);
        Check.due("beside a pale Or", hall.best(0, true), ARGENT);
        hall.ordinary(0, 0, OR);
        bestAre(-1, OR, hall);
        hall.ordinary(0, 1, GULES);
        hall.charge(0, 0, 0, OR);
        bestAre(OR, -1, hall);
        // The fewest faults go ahead: on Argent, Or would show as many as Gules, which is greater.
        bestAre(-1, GULES, Halls.simple(0, ARGENT, OR, 0, OR, 1, OR));
    }

    // ---- promise 24

    private static void promiseDigest(Edges edges) {
        edges.under("Promise 24: digest");
        edges.edge("A number d starts with 58314", () -> {
            BigInteger due = BigInteger.valueOf(58314).multiply(BigInteger.valueOf(31).pow(8));
            Check.due("of an empty hall", new Blazonhall().digest(), due.longValue());
            Blazonhall rung = new Blazonhall();
            rung.ring();
            Check.due("with one refused", rung.digest(), due.longValue() + 31);
        });
        edges.edge("for each of the following numbers v, d becomes d * 31 + v, which wraps around "
                + "as a 64-bit integer", AskingEdgeTest::digestWrapsAround);
        edges.edge("many() of 0 to 7; ARMS by ARMS ofArms() of 0 to 7, at() of (1, 1), (4, 2), "
                + "(3, 4), (6, 6) and (0, 7), how many signs blazon() has, and of SIMPLE ones "
                + "best() of the ORDINARY and of the CHARGES", AskingEdgeTest::digestOfArms);
        edges.edge("one by one of PEOPLE ofPerson() of 0 to 7, bears() of the same POINTS and of "
                + "(3, 1), nearest().", AskingEdgeTest::digestOfPeople);
    }

    private static BigInteger with(BigInteger before, int... values) {
        BigInteger d = before;
        for (int value : values) {
            d = d.multiply(BigInteger.valueOf(31)).add(BigInteger.valueOf(value));
        }
        return d;
    }

    private static void digestWrapsAround() {
        Blazonhall hall = new Blazonhall();
        hall.field(0, OR, OR);
        // Its 24 numbers, as the promises tell them by hand.
        BigInteger due = with(BigInteger.valueOf(58314), 1, 0, 0, 0, 1, 0, 0, 0);
        due = with(due, 0, 0, 0, -1, 0, 0, 1, 0);
        due = with(due, OR, OR, OR, OR, OR);
        due = with(due, 2, -1, -1);
        Check.due("more than 64 bits", due.bitLength() > 64, true);
        Check.due("of plain Or alone", hall.digest(), due.longValue());
    }

    private static void digestOfArms() {
        String left = "Per bend Argent and Ermine, a bordure Purpure, a lion Sable";
        String right = "Per fess Gules and Vert, three eagles Azure";
        Blazonhall hall = Halls.simple(4, ARGENT, ERMINE, 7, PURPURE, 1, SABLE);
        hall.field(2, GULES, VERT);
        hall.charge(1, 1, 3, AZURE);
        hall.impale(0, 1);
        BigInteger due = with(BigInteger.valueOf(58314), 3, 0, 0, 2, 1, 0, 0, 0);
        due = with(due, 0, 4, 7, 0, 1, 0, 2 + 16 + 64 + 128, 0);
        due = with(due, ARGENT, ARGENT, SABLE, ARGENT, PURPURE);
        due = with(due, left.length(), OR, OR);
        due = with(due, 0, 2, 0, 1, 3, 1, 4 + 8 + 32, 0);
        due = with(due, AZURE, GULES, VERT, VERT, VERT);
        due = with(due, right.length(), -1, OR);
        due = with(due, 1, -1, -1, -1, -1, 1, 2 + 4 + 8 + 16 + 32 + 64 + 128, 0);
        due = with(due, ARGENT, GULES, ARGENT, AZURE, PURPURE);
        due = with(due, ("[" + left + " impaling " + right + "]").length());
        Check.due("of three arms", hall.digest(), due.longValue());
    }

    private static void digestOfPeople() {
        Blazonhall hall = new Blazonhall();
        hall.field(0, AZURE, OR);
        hall.field(5, OR, GULES);
        hall.founder(0);
        hall.founder(1);
        hall.born(0, 1);
        hall.born(0, 1);
        hall.ring();
        BigInteger due = with(BigInteger.valueOf(58314), 2, 4, 2, 0, 2, 0, 1, 1);
        due = with(due, 0, 0, 0, -1, 0, 0, 8, 1, AZURE, AZURE, AZURE, AZURE, AZURE);
        due = with(due, "Azure".length(), -1, -1);
        due = with(due, 0, 5, 0, -1, 0, 0, 5, 1, OR, GULES, GULES, OR, GULES);
        due = with(due, "Chequy Or and Gules".length(), -1, -1);
        due = with(due, 0, -1, -1, 0, 1, 0, 2, 0, AZURE, AZURE, AZURE, AZURE, AZURE, AZURE, 2);
        due = with(due, 1, -1, -1, 0, 1, 0, 2, 0, OR, GULES, GULES, OR, GULES, GULES, 3);
        // Both children bear the chequy arms above on the right and below on the left; the mark
        // of the second one is nearer to these.
        due = with(due, -1, 0, 1, 1, 0, 1, 0, 1, AZURE, OR, GULES, AZURE, GULES, AZURE, 3);
        due = with(due, -1, 0, 1, 2, 0, 1, 0, 1, AZURE, OR, GULES, AZURE, GULES, OR, 2);
        Check.due("of four people", hall.digest(), due.longValue());
    }
}
