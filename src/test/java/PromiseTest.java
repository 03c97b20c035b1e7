/** Each promise by itself: ordinary inputs, the edges that the document names, wrong inputs. */
public final class PromiseTest {
    private static final int[] WRONG = {-1, Integer.MIN_VALUE, Integer.MAX_VALUE};
    private static final int OR = 0;
    private static final int ARGENT = 1;
    private static final int GULES = 2;
    private static final int AZURE = 3;
    private static final int SABLE = 4;
    private static final int VERT = 5;
    private static final int PURPURE = 6;
    private static final int ERMINE = 7;

    private PromiseTest() {
    }

    public static void main(String[] args) {
        aNewObject();
        fieldDraws();
        fieldRefuses();
        ordinaryDraws();
        ordinaryFaults();
        ordinaryRefuses();
        chargeDraws();
        chargeFaults();
        chargeRefuses();
        impales();
        quarters();
        setsOver();
        marshalledFollowLater();
        faultsGrow();
        tellsFounders();
        children();
        ranksAndMarks();
        soleIsToldAhead();
        grants();
        rings();
        atRefuses();
        bearsWhatParentsBecome();
        ofArmsAnswers();
        ofArmsTinctures();
        ofPersonAnswers();
        ofPersonSole();
        blazonsSimple();
        blazonsMarshalled();
        blazonIsCut();
        rows();
        shares();
        manyAnswers();
        apartAndNearest();
        wouldBe();
        bestOrdinary();
        bestCharge();
        bestRefuses();
        digests();
        Check.finish("PromiseTest");
    }

    // ---- promise 1

    private static void aNewObject() {
        Blazonhall hall = new Blazonhall();
        for (int what = 0; what < 8; what++) {
            Check.due("many(" + what + ") of a new object", hall.many(what), 0);
        }
        for (int number : new int[] {0, 1, -1, 9, 12, Integer.MIN_VALUE, Integer.MAX_VALUE}) {
            Check.index("at of no arms", () -> hall.at(number, 0, 0));
            Check.index("bears of nobody", () -> hall.bears(number, 0, 0));
            Check.index("blazon of no arms", () -> hall.blazon(number));
            Check.index("row of nobody", () -> hall.row(number, 0));
            Check.index("founder of no arms", () -> hall.founder(number));
        }
    }

    // ---- promise 2

    private static void fieldDraws() {
        draws(0, "OOOOOOOO OOOOOOOO OOOOOOOO OOOOOOOO OOOOOOOO OOOOOOOO OOOOOOOO OOOOOOOO");
        draws(1, "OOOOGGGG OOOOGGGG OOOOGGGG OOOOGGGG OOOOGGGG OOOOGGGG OOOOGGGG OOOOGGGG");
        draws(2, "OOOOOOOO OOOOOOOO OOOOOOOO OOOOOOOO GGGGGGGG GGGGGGGG GGGGGGGG GGGGGGGG");
        draws(3, "OOOOGGGG OOOOGGGG OOOOGGGG OOOOGGGG GGGGOOOO GGGGOOOO GGGGOOOO GGGGOOOO");
        draws(4, "OOOOOOOO GOOOOOOO GGOOOOOO GGGOOOOO GGGGOOOO GGGGGOOO GGGGGGOO GGGGGGGO");
        draws(5, "OOGGOOGG OOGGOOGG GGOOGGOO GGOOGGOO OOGGOOGG OOGGOOGG GGOOGGOO GGOOGGOO");
    }

    private static void draws(int division, String rows) {
        Blazonhall hall = new Blazonhall();
        Check.due("field", hall.field(division, OR, GULES), 0);
        Check.due("picture of division " + division, Halls.picture(hall, 0), rows);
        Check.due("faults of a field alone", hall.ofArms(0, 5), 0);
        Check.due("the next field's number", hall.field(division, ERMINE, ERMINE), 1);
        Check.due("arms", hall.many(0), 2);
    }

    private static void fieldRefuses() {
        Blazonhall hall = new Blazonhall();
        for (int wrong : WRONG) {
            Check.argument("division", () -> hall.field(wrong, 0, 0));
            Check.argument("first", () -> hall.field(0, wrong, 0));
            Check.argument("second", () -> hall.field(0, 0, wrong));
        }
        Check.argument("division 6", () -> hall.field(6, 0, 0));
        Check.argument("first 8", () -> hall.field(0, 8, 0));
        Check.argument("second 8", () -> hall.field(0, 0, 8));
        Check.due("arms after refusals", hall.many(0), 0);
        Halls.fillArms(hall);
        Check.state("the 11th field", () -> hall.field(0, 0, 0));
        Check.argument("argument ahead of state", () -> hall.field(0, 0, 8));
        Check.argument("argument ahead of state", () -> hall.field(6, 0, 0));
        Check.due("arms, full", hall.many(0), 10);
    }

    // ---- promise 3

    private static void ordinaryDraws() {
        String blank = "ZZZZZZZZ";
        String full = "AAAAAAAA";
        String pale = "ZZZAAZZZ";
        ordinaryIs(0, Halls.times(blank, 8));
        ordinaryIs(1, Halls.times(pale, 8));
        ordinaryIs(2, Halls.times(blank, 3) + " " + Halls.times(full, 2) + " "
                + Halls.times(blank, 3));
        ordinaryIs(3, "AAZZZZZZ AAAZZZZZ ZAAAZZZZ ZZAAAZZZ ZZZAAAZZ ZZZZAAAZ ZZZZZAAA ZZZZZZAA");
        ordinaryIs(4, Halls.times(pale, 3) + " " + Halls.times(full, 2) + " "
                + Halls.times(pale, 3));
        ordinaryIs(5, "AZZZZZZA ZAZZZZAZ ZZAZZAZZ ZZZAAZZZ ZZZAAZZZ ZZAZZAZZ ZAZZZZAZ AZZZZZZA");
        ordinaryIs(6, Halls.times(full, 2) + " " + Halls.times(blank, 6));
        ordinaryIs(7, full + " " + Halls.times("AZZZZZZA", 6) + " " + full);
        Blazonhall hall = new Blazonhall();
        hall.field(0, AZURE, AZURE);
        hall.ordinary(0, 6, OR);
        hall.ordinary(0, 2, ARGENT);
        Check.due("in place of the one before", Halls.picture(hall, 0),
                Halls.times(blank, 3) + " " + Halls.times(full, 2) + " " + Halls.times(blank, 3));
        hall.ordinary(0, 0, OR);
        Check.due("none in place of it", Halls.picture(hall, 0), Halls.times(blank, 8));
    }

    private static void ordinaryIs(int ordinary, String rows) {
        Blazonhall hall = new Blazonhall();
        hall.field(0, AZURE, OR);
        Check.due("ordinary", hall.ordinary(0, ordinary, ARGENT), 0);
        Check.due("picture of ordinary " + ordinary, Halls.picture(hall, 0), rows);
    }

    private static void ordinaryFaults() {
        String groups = "MMCCCCCE";
        for (int on = 0; on < 8; on++) {
            for (int tincture = 0; tincture < 8; tincture++) {
                Blazonhall hall = new Blazonhall();
                hall.field(0, on, GULES);
                int due = groups.charAt(on) == groups.charAt(tincture) ? 1 : 0;
                Check.due(tincture + " on " + on, hall.ordinary(0, 1, tincture), due);
                Check.due("no ordinary", hall.ordinary(0, 0, tincture), 0);
                Check.due("charges " + tincture + " on " + on, hall.charge(0, 0, 1, tincture), due);
                Check.due("no charges", hall.charge(0, 0, 0, tincture), 0);
            }
        }
        Blazonhall hall = new Blazonhall();
        hall.field(2, GULES, OR);
        Check.due("a chief on the upper half alone", hall.ordinary(0, 6, AZURE), 1);
        Check.due("a chief that clashes below alone", hall.ordinary(0, 6, ARGENT), 0);
        Check.due("a pale on both halves", hall.ordinary(0, 1, AZURE), 0);
        Check.due("a fess on both halves", hall.ordinary(0, 2, ARGENT), 0);
        hall.field(1, GULES, VERT);
        Check.due("a fess on two colours", hall.ordinary(1, 2, SABLE), 1);
        hall.field(1, GULES, ERMINE);
        Check.due("a fess on a colour and ermine", hall.ordinary(2, 2, SABLE), 0);
        Check.due("ermine on a colour and ermine", hall.ordinary(2, 2, ERMINE), 0);
    }

    private static void ordinaryRefuses() {
        Blazonhall hall = new Blazonhall();
        hall.field(0, OR, OR);
        hall.impale(0, 0);
        for (int wrong : WRONG) {
            Check.index("arms", () -> hall.ordinary(wrong, wrong, wrong));
            Check.argument("ordinary", () -> hall.ordinary(0, wrong, 0));
            Check.argument("tincture", () -> hall.ordinary(0, 0, wrong));
        }
        Check.index("arms behind the last", () -> hall.ordinary(2, 1, 1));
        Check.argument("ordinary 8", () -> hall.ordinary(0, 8, 1));
        Check.argument("tincture 8", () -> hall.ordinary(0, 1, 8));
        Check.argument("argument ahead of state", () -> hall.ordinary(1, 8, 1));
        Check.argument("argument ahead of state", () -> hall.ordinary(1, 0, 8));
        Check.state("not simple", () -> hall.ordinary(1, 1, 1));
        Check.due("nothing changed", hall.ofArms(0, 2), 0);
    }

    // ---- promise 4

    private static void chargeDraws() {
        String blank = "VVVVVVVV";
        chargesAre(0, Halls.times(blank, 8));
        chargesAre(1, Halls.times(blank, 3) + " " + Halls.times("VVVOOVVV", 2) + " "
                + Halls.times(blank, 3));
        chargesAre(2, Halls.times(blank, 3) + " " + Halls.times("VOOVVOOV", 2) + " "
                + Halls.times(blank, 3));
        chargesAre(3, blank + " " + Halls.times("VOOVVOOV", 2) + " " + Halls.times(blank, 2) + " "
                + Halls.times("VVVOOVVV", 2) + " " + blank);
        Blazonhall hall = new Blazonhall();
        hall.field(0, VERT, VERT);
        hall.charge(0, 0, 2, OR);
        hall.ordinary(0, 2, ARGENT);
        Check.due("they lie over the ordinary", Halls.picture(hall, 0),
                Halls.times(blank, 3) + " " + Halls.times("AOOAAOOA", 2) + " "
                + Halls.times(blank, 3));
        hall.charge(0, 5, 1, GULES);
        Check.due("in place of those before", Halls.picture(hall, 0),
                Halls.times(blank, 3) + " " + Halls.times("AAAGGAAA", 2) + " "
                + Halls.times(blank, 3));
        hall.charge(0, 5, 0, GULES);
        Check.due("none in place of those", Halls.picture(hall, 0),
                Halls.times(blank, 3) + " " + Halls.times("AAAAAAAA", 2) + " "
                + Halls.times(blank, 3));
    }

    private static void chargesAre(int number, String rows) {
        Blazonhall hall = new Blazonhall();
        hall.field(0, VERT, ARGENT);
        Check.due("charge", hall.charge(0, 3, number, OR), 0);
        Check.due("picture of " + number + " charges", Halls.picture(hall, 0), rows);
    }

    private static void chargeFaults() {
        Blazonhall hall = new Blazonhall();
        hall.field(0, GULES, OR);
        hall.ordinary(0, 4, OR);
        Check.due("on the cross alone, a metal", hall.charge(0, 0, 1, ARGENT), 1);
        Check.due("on the cross alone, a colour", hall.charge(0, 0, 1, GULES), 0);
        Check.due("on the field alone, a colour", hall.charge(0, 0, 3, VERT), 0);
        hall.ordinary(0, 6, OR);
        Check.due("on the chief and the field", hall.charge(0, 0, 3, VERT), 0);
        hall.ordinary(0, 6, PURPURE);
        Check.due("both clash", hall.charge(0, 0, 3, VERT), 2);
        Check.due("the ordinary alone", hall.charge(0, 0, 3, OR), 1);
        Check.due("told by the ordinary", hall.ordinary(0, 4, ARGENT), 0);
        hall.field(3, GULES, OR);
        Check.due("one on all four quarters", hall.charge(1, 0, 1, SABLE), 0);
        hall.field(1, GULES, OR);
        Check.due("two on both halves", hall.charge(2, 0, 2, SABLE), 0);
        hall.field(2, OR, GULES);
        hall.ordinary(3, 2, ARGENT);
        Check.due("two on the fess alone", hall.charge(3, 0, 2, OR), 1);
    }

    private static void chargeRefuses() {
        Blazonhall hall = new Blazonhall();
        hall.field(0, OR, OR);
        hall.impale(0, 0);
        for (int wrong : WRONG) {
            Check.index("arms", () -> hall.charge(wrong, wrong, wrong, wrong));
            Check.argument("kind", () -> hall.charge(0, wrong, 1, 1));
            Check.argument("number", () -> hall.charge(0, 1, wrong, 1));
            Check.argument("tincture", () -> hall.charge(0, 1, 1, wrong));
        }
        Check.index("arms behind the last", () -> hall.charge(2, 1, 1, 1));
        Check.argument("kind 6", () -> hall.charge(0, 6, 1, 1));
        Check.argument("number 4", () -> hall.charge(0, 0, 4, 1));
        Check.argument("tincture 8", () -> hall.charge(0, 0, 1, 8));
        Check.argument("tincture 8 of none", () -> hall.charge(0, 0, 0, 8));
        Check.argument("argument ahead of state", () -> hall.charge(1, 6, 1, 1));
        Check.argument("argument ahead of state", () -> hall.charge(1, 0, 4, 1));
        Check.argument("argument ahead of state", () -> hall.charge(1, 0, 1, 8));
        Check.state("not simple", () -> hall.charge(1, 0, 1, 1));
        Check.due("nothing changed", hall.ofArms(0, 4), 0);
    }

    // ---- promises 5 to 7

    private static void impales() {
        Blazonhall hall = new Blazonhall();
        hall.field(4, OR, GULES);
        hall.field(1, AZURE, ARGENT);
        hall.ordinary(1, 7, VERT);
        Check.due("impale", hall.impale(0, 1), 2);
        Check.due("impaled", Halls.picture(hall, 2), "OOOOVVVV GOOOVZAA GOOOVZAA GGOOVZAA "
                + "GGOOVZAA GGGOVZAA GGGOVZAA GGGGVVVV");
        refusesTwo(hall, (left, right) -> hall.impale(left, right), 3);
    }

    private interface OfTwo {
        int call(int one, int other);
    }

    private static void refusesTwo(Blazonhall hall, OfTwo call, int count) {
        for (int wrong : WRONG) {
            Check.index("one", () -> call.call(wrong, 0));
            Check.index("other", () -> call.call(0, wrong));
        }
        Check.index("itself", () -> call.call(count, 0));
        Check.index("itself", () -> call.call(0, count));
        Check.due("arms after refusals", hall.many(0), count);
        Halls.fillArms(hall);
        Check.index("index ahead of state", () -> call.call(10, 0));
        Check.index("index ahead of state", () -> call.call(0, 10));
        Check.state("full", () -> call.call(0, 0));
        Check.due("arms, full", hall.many(0), 10);
    }

    private static void quarters() {
        Blazonhall hall = new Blazonhall();
        hall.field(4, OR, GULES);
        hall.field(1, AZURE, ARGENT);
        hall.field(2, SABLE, VERT);
        hall.field(0, PURPURE, OR);
        hall.ordinary(3, 7, ERMINE);
        Check.due("quarter", hall.quarter(0, 1, 2, 3), 4);
        Check.due("quartered", Halls.picture(hall, 4), "OOOOZZAA GOOOZZAA GGOOZZAA GGGOZZAA "
                + "SSSSEEEE SSSSEPPP VVVVEPPP VVVVEPPP");
        for (int place = 0; place < 4; place++) {
            for (int wrong : new int[] {-1, 5, Integer.MIN_VALUE, Integer.MAX_VALUE}) {
                quarterRefuses(hall, place, wrong);
            }
        }
        Check.due("arms after refusals", hall.many(0), 5);
        Halls.fillArms(hall);
        quarterRefuses(hall, 3, 10);
        Check.state("full", () -> hall.quarter(0, 1, 2, 3));
        Check.due("arms, full", hall.many(0), 10);
    }

    private static void quarterRefuses(Blazonhall hall, int place, int wrong) {
        int[] shown = {0, 1, 2, 3};
        shown[place] = wrong;
        Check.index("quarter with " + wrong + " at " + place,
                () -> hall.quarter(shown[0], shown[1], shown[2], shown[3]));
    }

    private static void setsOver() {
        Blazonhall hall = new Blazonhall();
        hall.field(4, OR, GULES);
        hall.field(1, AZURE, ARGENT);
        hall.ordinary(1, 6, VERT);
        Check.due("over", hall.over(0, 1), 2);
        Check.due("over", Halls.picture(hall, 2), "OOOOOOOO GOOOOOOO GGVVVVOO GGZZAAOO "
                + "GGZZAAOO GGZZAAOO GGGGGGOO GGGGGGGO");
        refusesTwo(hall, (large, small) -> hall.over(large, small), 3);
    }

    private static void marshalledFollowLater() {
        Blazonhall hall = new Blazonhall();
        hall.field(0, AZURE, AZURE);
        hall.impale(0, 0);
        hall.over(1, 0);
        hall.quarter(2, 2, 2, 2);
        hall.founder(3);
        Check.due("ahead", hall.at(3, 0, 0), AZURE);
        hall.ordinary(0, 7, VERT);
        Check.due("whatever these become later", hall.at(3, 0, 0), VERT);
        Check.due("faults become so too", hall.ofArms(3, 5), 12);
        Check.due("and what is borne", hall.bears(0, 0, 0), VERT);
        hall.charge(0, 0, 1, OR);
        Check.due("charges become so too", hall.at(3, 2, 2), OR);
        Check.due("and what is borne", hall.bears(0, 2, 2), OR);
    }

    private static void faultsGrow() {
        Blazonhall hall = new Blazonhall();
        hall.field(0, GULES, OR);
        hall.ordinary(0, 1, AZURE);
        hall.charge(0, 0, 3, SABLE);
        int due = 2;
        int sum = 2;
        for (int i = 0; i < 9; i++) {
            hall.quarter(i, i, i, i);
            due *= 4;
            sum += due;
            Check.due("one that is shown four times", hall.ofArms(i + 1, 5), due);
        }
        Check.due("the most faults", hall.many(3), sum);
        Check.due("none without faults", hall.many(4), 0);
    }

    // ---- promises 8 to 11

    private static void tellsFounders() {
        Blazonhall hall = new Blazonhall();
        hall.field(4, OR, GULES);
        hall.field(0, AZURE, AZURE);
        Check.due("founder", hall.founder(1), 0);
        Check.due("founder", hall.founder(0), 1);
        Check.due("what a founder bears", Halls.borne(hall, 1), Halls.picture(hall, 0));
        Check.due("what a founder bears", Halls.borne(hall, 0), Halls.picture(hall, 1));
        for (int wrong : WRONG) {
            Check.index("arms", () -> hall.founder(wrong));
        }
        Check.index("arms behind the last", () -> hall.founder(2));
        for (int i = 2; i < 12; i++) {
            Check.due("founder", hall.founder(0), i);
        }
        Check.state("the 13th", () -> hall.founder(0));
        Check.index("index ahead of state", () -> hall.founder(2));
        Check.due("people, full", hall.many(1), 12);
    }

    private static void children() {
        Blazonhall hall = new Blazonhall();
        hall.field(4, OR, GULES);
        hall.field(1, AZURE, ARGENT);
        hall.founder(0);
        hall.founder(1);
        Check.due("born", hall.born(0, 1), 2);
        Check.due("quartered first, other, other, first", Halls.borne(hall, 2),
                "OOOOZZAA GOOOZZAA GGOOZZAA GGGOZZAA ZZAAOOOO ZZAAGOOO ZZAAGGOO ZZAAGGGO");
        for (int wrong : WRONG) {
            Check.index("first", () -> hall.born(wrong, wrong));
            Check.index("other", () -> hall.born(0, wrong));
        }
        Check.index("first behind the last", () -> hall.born(3, 0));
        Check.index("other behind the last", () -> hall.born(0, 3));
        Check.argument("the same", () -> hall.born(2, 2));
        Check.due("people after refusals", hall.many(1), 3);
        for (int i = 3; i < 12; i++) {
            Check.due("born", hall.born(0, 1), i);
        }
        Check.state("the 13th", () -> hall.born(0, 1));
        Check.argument("argument ahead of state", () -> hall.born(0, 0));
        Check.index("index ahead of state", () -> hall.born(12, 12));
        Check.due("people, full", hall.many(1), 12);
    }

    private static void ranksAndMarks() {
        Blazonhall hall = new Blazonhall();
        hall.field(0, AZURE, AZURE);
        hall.field(0, VERT, VERT);
        hall.founder(0);
        hall.founder(1);
        hall.born(0, 1);
        hall.born(0, 1);
        hall.born(0, 1);
        hall.born(1, 0);
        hall.born(0, 1);
        int[] ranks = {0, 0, 1, 2, 3, 1, 4};
        String[] rows = {"ZZZZZZZZ", "VVVVVVVV", "ZZZZVVVV", "ZZZOOVVV", "ZZZSSVVV", "VVVVZZZZ",
            "ZZZOOVVV"};
        for (int i = 0; i < ranks.length; i++) {
            Check.due("rank of " + i, hall.ofPerson(i, 3), ranks[i]);
            Check.due("row 1 of " + i, hall.row(i, 1), rows[i]);
        }
        Check.due("no mark above", hall.row(3, 0), "ZZZZVVVV");
        Check.due("no mark below", hall.row(3, 2), "ZZZZVVVV");
        hall.born(3, 2);
        Check.due("a parent's mark stays", hall.row(7, 1), "ZZZOOVVV");
        hall.born(3, 2);
        hall.born(3, 2);
        Check.due("one's own lies over it", hall.row(9, 1), "ZZZSSVVV");
    }

    private static void soleIsToldAhead() {
        Blazonhall hall = new Blazonhall();
        hall.field(0, AZURE, AZURE);
        hall.field(0, VERT, VERT);
        hall.founder(0);
        hall.founder(1);
        hall.born(0, 1);
        Check.due("sole", hall.ofPerson(2, 4), 1);
        hall.born(0, 2);
        Check.due("2 was sole ahead of it", hall.ofPerson(3, 5), 1);
        Check.due("2 is sole no more", hall.ofPerson(2, 4), 0);
        Check.due("quartered", hall.row(3, 0), "ZZZZZZVV");
        hall.born(1, 2);
        Check.due("2 was not sole ahead of it", hall.ofPerson(4, 5), 0);
        Check.due("what the first parent bears", Halls.borne(hall, 4), Halls.borne(hall, 1));
        Check.due("told for good", hall.ofPerson(3, 5), 1);
        Check.due("told for good", hall.row(3, 0), "ZZZZZZVV");
    }

    private static void grants() {
        Blazonhall hall = new Blazonhall();
        hall.field(0, AZURE, AZURE);
        hall.field(0, VERT, VERT);
        hall.founder(0);
        hall.founder(1);
        hall.born(0, 1);
        Check.due("grant", hall.grant(0, 1), 0);
        Check.due("grant again", hall.grant(0, 0), 1);
        Check.due("grant the same", hall.grant(0, 0), 0);
        Check.due("ahead", hall.bears(2, 4, 0), VERT);
        Check.due("grant", hall.grant(1, 0), 1);
        Check.due("the child's becomes so too", hall.bears(2, 4, 0), AZURE);
        for (int wrong : WRONG) {
            Check.index("person", () -> hall.grant(wrong, 0));
            Check.index("arms", () -> hall.grant(0, wrong));
        }
        Check.index("person behind the last", () -> hall.grant(3, 0));
        Check.index("arms behind the last", () -> hall.grant(0, 2));
        Check.index("index ahead of state", () -> hall.grant(2, 2));
        Check.state("no founder", () -> hall.grant(2, 0));
        Check.due("nothing changed", hall.ofPerson(0, 0), 0);
    }

    private static void rings() {
        Blazonhall hall = new Blazonhall();
        for (int i = 1; i <= 500; i++) {
            Check.due("ring", hall.ring(), i);
        }
        Check.due("refused", hall.many(6), 500);
        Check.due("holds nothing", hall.many(0) + hall.many(1), 0);
        Check.due("an object of its own", new Blazonhall().ring(), 1);
    }

    // ---- promises 12 and 13

    private static void atRefuses() {
        Blazonhall hall = new Blazonhall();
        hall.field(0, AZURE, AZURE);
        hall.founder(0);
        for (int wrong : new int[] {-1, 8, Integer.MIN_VALUE, Integer.MAX_VALUE}) {
            Check.index("arms", () -> hall.at(wrong, 0, 0));
            Check.index("x", () -> hall.at(0, wrong, 0));
            Check.index("y", () -> hall.at(0, 0, wrong));
            Check.index("person", () -> hall.bears(wrong, 0, 0));
            Check.index("x", () -> hall.bears(0, wrong, 0));
            Check.index("y", () -> hall.bears(0, 0, wrong));
            Check.index("person", () -> hall.row(wrong, 0));
            Check.index("y", () -> hall.row(0, wrong));
        }
        Check.index("arms behind the last", () -> hall.at(1, 0, 0));
        Check.index("person behind the last", () -> hall.bears(1, 0, 0));
        Check.index("person behind the last", () -> hall.row(1, 0));
        Check.due("the last point", hall.at(0, 7, 7), AZURE);
        Check.due("the last point", hall.bears(0, 7, 7), AZURE);
    }

    private static void bearsWhatParentsBecome() {
        Blazonhall hall = new Blazonhall();
        hall.field(0, AZURE, AZURE);
        hall.field(0, VERT, VERT);
        hall.founder(0);
        hall.founder(1);
        hall.born(0, 1);
        hall.born(2, 1);
        hall.ordinary(0, 6, OR);
        Check.due("a grandchild's", Halls.borne(hall, 3), "OOVVVVVV ZZVVVVVV VVOOVVVV VVZZVVVV "
                + "VVVVOOVV VVVVZZVV VVVVVVOO VVVVVVZZ");
        hall.born(0, 1);
        hall.born(1, 4);
        Check.due("a mark is not seen at half the size", hall.row(5, 0), "VVVVVVVV");
        Check.due("of the first parent alone", Halls.borne(hall, 5), Halls.borne(hall, 1));
    }

    // ---- promise 14

    private static void ofArmsAnswers() {
        Blazonhall hall = new Blazonhall();
        hall.field(5, OR, GULES);
        answersOfArms(hall, 0, 0, 5, 0, -1, 0, 0, 5, 0);
        hall.ordinary(0, 6, SABLE);
        hall.charge(0, 4, 0, VERT);
        answersOfArms(hall, 0, 0, 5, 6, -1, 0, 0, 21, 0);
        hall.charge(0, 4, 3, ERMINE);
        answersOfArms(hall, 0, 0, 5, 6, 4, 3, 0, 149, 0);
        hall.impale(0, 0);
        answersOfArms(hall, 1, 1, -1, -1, -1, -1, 0, 149, 0);
        hall.quarter(0, 0, 0, 0);
        answersOfArms(hall, 2, 2, -1, -1, -1, -1, 0, 149, 0);
        hall.over(0, 0);
        answersOfArms(hall, 3, 3, -1, -1, -1, -1, 0, 149, 0);
        hall.field(0, GULES, OR);
        hall.ordinary(4, 2, VERT);
        answersOfArms(hall, 4, 0, 0, 2, -1, 0, 1, 36, 0);
        hall.founder(4);
        hall.founder(3);
        hall.founder(4);
        hall.born(0, 2);
        answersOfArms(hall, 4, 0, 0, 2, -1, 0, 1, 36, 2);
        Check.due("shown alone is not borne", hall.ofArms(0, 7), 0);
        hall.grant(0, 3);
        Check.due("one fewer", hall.ofArms(4, 7), 1);
        Check.due("one more", hall.ofArms(3, 7), 2);
        for (int wrong : WRONG) {
            Check.index("arms", () -> hall.ofArms(wrong, wrong));
            Check.argument("what", () -> hall.ofArms(0, wrong));
        }
        Check.index("arms behind the last", () -> hall.ofArms(5, 8));
        Check.argument("what 8", () -> hall.ofArms(0, 8));
    }

    private static void answersOfArms(Blazonhall hall, int arms, int... dues) {
        for (int what = 0; what < 8; what++) {
            Check.due("ofArms(" + arms + ", " + what + ")", hall.ofArms(arms, what), dues[what]);
        }
    }

    private static void ofArmsTinctures() {
        Blazonhall hall = new Blazonhall();
        for (int tincture = 0; tincture < 8; tincture++) {
            hall.field(0, tincture, 0);
            Check.due("a set of one", hall.ofArms(tincture, 6), 1 << tincture);
        }
        hall.ordinary(0, 6, ERMINE);
        hall.over(7, 0);
        Check.due("what is covered is not seen", hall.ofArms(8, 6), 129);
        cornerIsSeen();
    }

    /** Each quartering leaves half of the bend, until one corner alone is left of it. */
    private static void cornerIsSeen() {
        Blazonhall hall = new Blazonhall();
        hall.field(0, GULES, GULES);
        hall.field(0, GULES, GULES);
        hall.ordinary(1, 3, OR);
        hall.quarter(1, 0, 0, 0);
        hall.quarter(2, 0, 0, 0);
        hall.quarter(3, 0, 0, 0);
        Check.due("one point", hall.share(4, OR), 1 / 64.0);
        Check.due("the first point is seen", hall.ofArms(4, 6), 5);
    }

    // ---- promise 15

    private static void ofPersonAnswers() {
        Blazonhall hall = new Blazonhall();
        hall.field(0, OR, OR);
        hall.field(0, GULES, OR);
        hall.founder(1);
        hall.founder(0);
        answersOfPerson(hall, 0, 1, -1, -1, 0, 1, 0, 0, 0);
        hall.born(1, 0);
        answersOfPerson(hall, 0, 1, -1, -1, 0, 1, 0, 1, 0);
        answersOfPerson(hall, 1, 0, -1, -1, 0, 1, 0, 1, 0);
        answersOfPerson(hall, 2, -1, 1, 0, 1, 1, 1, 0, 1);
        hall.born(1, 2);
        answersOfPerson(hall, 1, 0, -1, -1, 0, 1, 0, 2, 0);
        answersOfPerson(hall, 2, -1, 1, 0, 1, 0, 1, 1, 1);
        answersOfPerson(hall, 3, -1, 1, 2, 2, 0, 1, 0, 2);
        hall.born(0, 3);
        answersOfPerson(hall, 4, -1, 0, 3, 1, 0, 0, 0, 3);
        hall.born(4, 0);
        answersOfPerson(hall, 5, -1, 4, 0, 1, 0, 1, 0, 4);
        for (int wrong : WRONG) {
            Check.index("person", () -> hall.ofPerson(wrong, wrong));
            Check.argument("what", () -> hall.ofPerson(0, wrong));
        }
        Check.index("person behind the last", () -> hall.ofPerson(6, 8));
        Check.argument("what 8", () -> hall.ofPerson(0, 8));
    }

    private static void answersOfPerson(Blazonhall hall, int person, int... dues) {
        for (int what = 0; what < 8; what++) {
            Check.due("ofPerson(" + person + ", " + what + ")", hall.ofPerson(person, what),
                    dues[what]);
        }
    }

    private static void ofPersonSole() {
        for (int first = 0; first < 4; first++) {
            for (int other = 0; other < 4; other++) {
                if (first != other) {
                    Blazonhall hall = new Blazonhall();
                    hall.field(0, OR, OR);
                    for (int i = 0; i < 4; i++) {
                        hall.founder(0);
                    }
                    hall.born(0, 1);
                    hall.born(first, other);
                    int due = first > 1 && other > 1 ? 1 : 0;
                    Check.due("sole beside " + first + " " + other, hall.ofPerson(4, 4), due);
                    Check.due("sole behind 0 1", hall.ofPerson(5, 4), due);
                    Check.due("a founder is sole", hall.ofPerson(0, 4), 1);
                }
            }
        }
    }

    // ---- promise 16

    private static void blazonsSimple() {
        String[] tinctures = {"Or", "Argent", "Gules", "Azure", "Sable", "Vert", "Purpure",
            "Ermine"};
        String[] divisions = {"", "Per pale ", "Per fess ", "Quarterly ", "Per bend ", "Chequy "};
        String[] ordinaries = {"", "pale", "fess", "bend", "cross", "saltire", "chief", "bordure"};
        String[] kinds = {"lion", "eagle", "rose", "star", "boar", "tower"};
        for (int tincture = 0; tincture < 8; tincture++) {
            Blazonhall hall = new Blazonhall();
            hall.field(0, tincture, GULES);
            Check.due("plain", hall.blazon(0), tinctures[tincture]);
            for (int division = 1; division < 6; division++) {
                hall.field(division, tincture, 7 - tincture);
                Check.due("divided", hall.blazon(division), divisions[division]
                        + tinctures[tincture] + " and " + tinctures[7 - tincture]);
            }
            for (int ordinary = 1; ordinary < 8; ordinary++) {
                hall.ordinary(0, ordinary, 7 - tincture);
                Check.due("with an ordinary", hall.blazon(0), tinctures[tincture] + ", a "
                        + ordinaries[ordinary] + " " + tinctures[7 - tincture]);
            }
            hall.ordinary(0, 0, 0);
            for (int kind = 0; kind < 6; kind++) {
                String article = kind == 1 ? "an " : "a ";
                hall.charge(0, kind, 1, tincture);
                Check.due("one", hall.blazon(0), tinctures[tincture] + ", " + article
                        + kinds[kind] + " " + tinctures[tincture]);
                hall.charge(0, kind, 2, tincture);
                Check.due("two", hall.blazon(0), tinctures[tincture] + ", two " + kinds[kind]
                        + "s " + tinctures[tincture]);
                hall.charge(0, kind, 3, tincture);
                Check.due("three", hall.blazon(0), tinctures[tincture] + ", three " + kinds[kind]
                        + "s " + tinctures[tincture]);
            }
            hall.charge(0, 0, 0, tincture);
            Check.due("none", hall.blazon(0), tinctures[tincture]);
        }
        Blazonhall hall = new Blazonhall();
        hall.field(4, GULES, GULES);
        hall.ordinary(0, 5, OR);
        hall.charge(0, 1, 1, AZURE);
        Check.due("all of it", hall.blazon(0),
                "Per bend Gules and Gules, a saltire Or, an eagle Azure");
        Check.index("arms", () -> hall.blazon(-1));
        Check.index("arms behind the last", () -> hall.blazon(1));
    }

    private static void blazonsMarshalled() {
        Blazonhall hall = new Blazonhall();
        hall.field(0, OR, OR);
        hall.field(0, GULES, GULES);
        hall.charge(1, 2, 2, ERMINE);
        hall.impale(0, 1);
        hall.over(1, 0);
        hall.quarter(0, 2, 1, 3);
        String left = "Or";
        String right = "Gules, two roses Ermine";
        String impaled = "[" + left + " impaling " + right + "]";
        String laid = "[" + right + ", over all " + left + "]";
        Check.due("impaled", hall.blazon(2), impaled);
        Check.due("over", hall.blazon(3), laid);
        Check.due("quartered", hall.blazon(4), "[1 " + left + "; 2 " + impaled + "; 3 " + right
                + "; 4 " + laid + "]");
        hall.charge(1, 2, 0, ERMINE);
        Check.due("whatever these become later", hall.blazon(4),
                "[1 Or; 2 [Or impaling Gules]; 3 Gules; 4 [Gules, over all Or]]");
    }

    /** The names' lengths move the cut through each kind of piece. */
    private static void blazonIsCut() {
        String[] names = {"Or", "Argent", "Gules", "Azure", "Sable", "Vert", "Purpure", "Ermine"};
        for (int left = 0; left < 8; left++) {
            for (int right = 0; right < 8; right++) {
                Blazonhall hall = new Blazonhall();
                hall.field(5, left, PURPURE);
                hall.ordinary(0, 7, right);
                hall.charge(0, 1, 3, PURPURE);
                hall.field(0, right, right);
                hall.charge(1, 5, 3, left);
                hall.impale(0, 1);
                hall.impale(1, 2);
                hall.over(3, 1);
                String first = "Chequy " + names[left] + " and Purpure, a bordure " + names[right]
                        + ", three eagles Purpure";
                String second = names[right] + ", three towers " + names[left];
                String third = "[" + first + " impaling " + second + "]";
                String fourth = "[" + second + " impaling " + third + "]";
                String whole = "[" + fourth + ", over all " + second + "]";
                Check.due("cut behind the 200th sign", hall.blazon(4),
                        whole.substring(0, Math.min(200, whole.length())));
            }
        }
        Blazonhall hall = new Blazonhall();
        hall.field(0, ERMINE, OR);
        String words = "Ermine";
        for (int i = 0; i < 9; i++) {
            hall.quarter(i, i, i, i);
            words = "[1 " + words + "; 2 " + words + "; 3 " + words + "; 4 " + words + "]";
            String due = words.substring(0, Math.min(200, words.length()));
            Check.due("quartered often", hall.blazon(i + 1), due);
            words = words.substring(0, Math.min(1000, words.length()));
        }
        Check.due("cut to 200", hall.blazon(9).length(), 200);
    }

    // ---- promises 17 and 18

    private static void rows() {
        Blazonhall hall = new Blazonhall();
        String letters = "OAGZSVPE";
        for (int tincture = 0; tincture < 8; tincture++) {
            hall.field(1, tincture, 7 - tincture);
            hall.founder(tincture);
            String one = letters.substring(tincture, tincture + 1);
            String other = letters.substring(7 - tincture, 8 - tincture);
            Check.due("row", hall.row(tincture, 0), one.repeat(4) + other.repeat(4));
            Check.due("row", hall.row(tincture, 7), one.repeat(4) + other.repeat(4));
        }
        hall.ordinary(0, 3, GULES);
        Check.due("row 2", hall.row(0, 2), "OGGGEEEE");
        Check.due("row 6", hall.row(0, 6), "OOOOEGGG");
    }

    private static void shares() {
        Blazonhall hall = new Blazonhall();
        hall.field(1, OR, GULES);
        hall.charge(0, 0, 3, VERT);
        hall.ordinary(0, 6, GULES);
        double[] dues = {20 / 64.0, 0.0, 32 / 64.0, 0.0, 0.0, 12 / 64.0, 0.0, 0.0};
        for (int tincture = 0; tincture < 8; tincture++) {
            Check.due("share of " + tincture, hall.share(0, tincture), dues[tincture]);
        }
        hall.field(0, ERMINE, OR);
        Check.due("all of it", hall.share(1, ERMINE), 1.0);
        for (int wrong : WRONG) {
            Check.index("arms", () -> hall.share(wrong, wrong));
            Check.argument("tincture", () -> hall.share(0, wrong));
        }
        Check.index("arms behind the last", () -> hall.share(2, 8));
        Check.argument("tincture 8", () -> hall.share(0, 8));
    }

    // ---- promise 19

    private static void manyAnswers() {
        Blazonhall hall = new Blazonhall();
        hall.field(0, OR, OR);
        hall.field(0, GULES, OR);
        hall.ordinary(1, 1, VERT);
        hall.impale(1, 1);
        hall.field(0, OR, GULES);
        answersOfMany(hall, 4, 0, 0, 3, 2, 0, 0, 0);
        hall.founder(0);
        answersOfMany(hall, 4, 1, 1, 3, 2, 0, 0, 0);
        hall.founder(3);
        hall.founder(1);
        hall.founder(0);
        answersOfMany(hall, 4, 4, 4, 3, 2, 3, 0, 0);
        hall.born(0, 1);
        hall.born(2, 4);
        hall.born(5, 0);
        hall.born(2, 1);
        hall.ring();
        answersOfMany(hall, 4, 8, 4, 3, 2, 6, 1, 3);
        for (int wrong : WRONG) {
            Check.argument("what", () -> hall.many(wrong));
        }
        Check.argument("what 8", () -> hall.many(8));
    }

    private static void answersOfMany(Blazonhall hall, int... dues) {
        for (int what = 0; what < 8; what++) {
            Check.due("many(" + what + ")", hall.many(what), dues[what]);
        }
    }

    // ---- promises 20 and 21

    private static void apartAndNearest() {
        Blazonhall hall = new Blazonhall();
        hall.field(0, OR, OR);
        hall.field(1, OR, GULES);
        hall.field(0, OR, OR);
        hall.charge(2, 0, 3, VERT);
        hall.founder(0);
        Check.due("nobody else", hall.nearest(0), -1);
        hall.founder(1);
        Check.due("somebody else", hall.nearest(0), 1);
        hall.founder(2);
        hall.founder(1);
        int[][] dues = {{0, 32, 12, 32}, {32, 0, 38, 0}, {12, 38, 0, 38}, {32, 0, 38, 0}};
        for (int one = 0; one < 4; one++) {
            for (int other = 0; other < 4; other++) {
                Check.due("apart(" + one + ", " + other + ")", hall.apart(one, other),
                        dues[one][other]);
            }
        }
        int[] nearest = {2, 3, 0, 1};
        for (int one = 0; one < 4; one++) {
            Check.due("nearest(" + one + ")", hall.nearest(one), nearest[one]);
        }
        hall.grant(2, 1);
        Check.due("of several the smallest number", hall.nearest(0), 1);
        Check.due("of several the smallest number", hall.nearest(3), 1);
        Check.due("of several the smallest number", hall.nearest(1), 2);
        hall.field(0, SABLE, SABLE);
        hall.grant(0, 3);
        Check.due("64 apart", hall.apart(0, 1), 64);
        Check.due("64 apart is the least", hall.nearest(0), 1);
        for (int wrong : new int[] {-1, 4, Integer.MIN_VALUE, Integer.MAX_VALUE}) {
            Check.index("one", () -> hall.apart(wrong, 0));
            Check.index("other", () -> hall.apart(0, wrong));
            Check.index("person", () -> hall.nearest(wrong));
        }
    }

    // ---- promise 22

    private static void wouldBe() {
        for (int i = 2; i < 12; i++) {
            wouldBeAsItCame(i);
        }
        Blazonhall hall = peopled(12);
        Check.due("as if there could be more than 12", hall.would(1, 0, 0, 0), AZURE);
        wouldBeMarked();
        for (int wrong : new int[] {-1, 12, Integer.MIN_VALUE, Integer.MAX_VALUE}) {
            Check.index("first", () -> hall.would(wrong, 0, 0, 0));
            Check.index("other", () -> hall.would(0, wrong, 0, 0));
            Check.index("x", () -> hall.would(0, 1, wrong, 0));
            Check.index("y", () -> hall.would(0, 1, 0, wrong));
            Check.index("index ahead of argument", () -> hall.would(0, 0, 0, wrong));
        }
        Check.index("x 8", () -> hall.would(0, 1, 8, 0));
        Check.index("y 8", () -> hall.would(0, 1, 0, 8));
        Check.argument("the same", () -> hall.would(3, 3, 0, 0));
    }

    private static int firstParentOf(int child) {
        return child % 3 == 2 ? 0 : child % 3 == 0 ? 1 : 2;
    }

    private static int otherParentOf(int child) {
        return child % 2 == 0 ? (firstParentOf(child) + 1) % 2 : child - 1;
    }

    private static Blazonhall peopled(int count) {
        Blazonhall hall = new Blazonhall();
        hall.field(4, OR, GULES);
        hall.field(1, AZURE, ARGENT);
        hall.founder(0);
        hall.founder(1);
        for (int child = 2; child < count; child++) {
            hall.born(firstParentOf(child), otherParentOf(child));
        }
        return hall;
    }

    private static void wouldBeAsItCame(int child) {
        int first = firstParentOf(child);
        int other = otherParentOf(child);
        Blazonhall hall = peopled(child);
        long before = hall.digest();
        StringBuilder told = new StringBuilder();
        for (int point = 0; point < 64; point++) {
            told.append(hall.would(first, other, point % 8, point / 8));
        }
        Check.due("nothing is changed", hall.digest(), before);
        Check.due("born", hall.born(first, other), child);
        StringBuilder came = new StringBuilder();
        for (int point = 0; point < 64; point++) {
            came.append(hall.bears(child, point % 8, point / 8));
        }
        Check.due("as it came", told.toString(), came.toString());
    }

    private static void wouldBeMarked() {
        Blazonhall hall = new Blazonhall();
        hall.field(0, AZURE, AZURE);
        hall.field(0, VERT, VERT);
        hall.founder(0);
        hall.founder(1);
        int[] onTheLeft = {AZURE, OR, SABLE, OR, SABLE};
        int[] onTheRight = {VERT, OR, SABLE, OR, SABLE};
        for (int i = 0; i < onTheLeft.length; i++) {
            Check.due("the mark on the left", hall.would(0, 1, 3, 1), onTheLeft[i]);
            Check.due("the mark on the right", hall.would(0, 1, 4, 1), onTheRight[i]);
            Check.due("beside the mark", hall.would(0, 1, 5, 1), VERT);
            Check.due("none of the other parent's", hall.would(1, 0, 3, 1), VERT);
            hall.born(0, 1);
        }
        Check.due("the first one's alone", hall.would(0, 2, 7, 7), AZURE);
        Check.due("the first one's alone", hall.would(0, 2, 7, 0), AZURE);
    }

    // ---- promise 23

    private static void bestOrdinary() {
        Blazonhall hall = new Blazonhall();
        hall.field(0, GULES, OR);
        Check.due("no ordinary", hall.best(0, false), -1);
        hall.ordinary(0, 1, GULES);
        Check.due("the smallest that does not clash", hall.best(0, false), OR);
        hall.field(0, OR, OR);
        hall.ordinary(1, 1, ARGENT);
        Check.due("the first colour", hall.best(1, false), GULES);
        hall.charge(1, 0, 3, GULES);
        Check.due("the most to be seen", hall.best(1, false), AZURE);
        hall.charge(1, 0, 3, AZURE);
        Check.due("of several the smallest number", hall.best(1, false), GULES);
        hall.charge(1, 0, 1, AZURE);
        Check.due("the fewest faults with the charges on it", hall.best(1, false), ERMINE);
        long before = hall.digest();
        hall.best(1, false);
        Check.due("nothing is changed", hall.digest(), before);
        hall.field(1, GULES, OR);
        hall.ordinary(2, 2, GULES);
        Check.due("never a fault, the most to be seen", hall.best(2, false), ARGENT);
        hall.ordinary(2, 7, OR);
        hall.charge(2, 0, 3, ARGENT);
        Check.due("of another one", hall.best(2, false), AZURE);
    }

    private static void bestCharge() {
        Blazonhall hall = new Blazonhall();
        hall.field(0, GULES, OR);
        hall.ordinary(0, 1, OR);
        Check.due("no charges", hall.best(0, true), -1);
        hall.charge(0, 0, 1, OR);
        Check.due("on the pale alone", hall.best(0, true), AZURE);
        hall.charge(0, 0, 2, OR);
        Check.due("on the field alone", hall.best(0, true), ARGENT);
        hall.ordinary(0, 0, OR);
        hall.charge(0, 0, 3, GULES);
        Check.due("no ordinary", hall.best(0, true), OR);
        hall.field(0, ERMINE, OR);
        hall.charge(1, 0, 1, ERMINE);
        Check.due("on ermine", hall.best(1, true), OR);
        hall.field(0, ARGENT, OR);
        hall.ordinary(2, 4, OR);
        hall.charge(2, 0, 2, OR);
        Check.due("a fault that stays", hall.best(2, true), GULES);
    }

    private static void bestRefuses() {
        Blazonhall hall = new Blazonhall();
        hall.field(0, GULES, OR);
        hall.impale(0, 0);
        for (int wrong : new int[] {-1, 2, Integer.MIN_VALUE, Integer.MAX_VALUE}) {
            Check.index("arms", () -> hall.best(wrong, true));
            Check.index("arms", () -> hall.best(wrong, false));
        }
        Check.state("not simple", () -> hall.best(1, true));
        Check.state("not simple", () -> hall.best(1, false));
    }

    // ---- promise 24

    private static void digests() {
        long empty = 58314;
        for (int what = 0; what < 8; what++) {
            empty = empty * 31;
        }
        Blazonhall hall = new Blazonhall();
        Check.due("digest of a new object", hall.digest(), empty);
        hall.field(4, OR, GULES);
        hall.ordinary(0, 5, VERT);
        hall.field(1, AZURE, ARGENT);
        hall.charge(1, 2, 2, PURPURE);
        hall.impale(0, 1);
        hall.over(2, 0);
        hall.founder(2);
        hall.founder(1);
        hall.born(0, 1);
        hall.born(0, 2);
        hall.ring();
        Check.due("digest", hall.digest(), digestOf(hall));
        Check.due("digest again", hall.digest(), digestOf(hall));
    }

    private static long digestOf(Blazonhall hall) {
        int[][] points = {{1, 1}, {4, 2}, {3, 4}, {6, 6}, {0, 7}};
        long d = 58314;
        for (int what = 0; what < 8; what++) {
            d = d * 31 + hall.many(what);
        }
        for (int arms = 0; arms < hall.many(0); arms++) {
            for (int what = 0; what < 8; what++) {
                d = d * 31 + hall.ofArms(arms, what);
            }
            for (int[] point : points) {
                d = d * 31 + hall.at(arms, point[0], point[1]);
            }
            d = d * 31 + hall.blazon(arms).length();
            if (hall.ofArms(arms, 0) == 0) {
                d = d * 31 + hall.best(arms, false);
                d = d * 31 + hall.best(arms, true);
            }
        }
        for (int person = 0; person < hall.many(1); person++) {
            for (int what = 0; what < 8; what++) {
                d = d * 31 + hall.ofPerson(person, what);
            }
            for (int[] point : points) {
                d = d * 31 + hall.bears(person, point[0], point[1]);
            }
            d = d * 31 + hall.bears(person, 3, 1);
            d = d * 31 + hall.nearest(person);
        }
        return d;
    }
}
