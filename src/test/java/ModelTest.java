import java.util.Random;

/** Long runs of calls, the same each time, against the model: every answer must be the same. */
public final class ModelTest {
    private static final String[] CALLS = {"field", "ordinary", "charge", "impale", "quarter",
        "over", "founder", "born", "grant", "ring", "at", "bears", "ofArms", "ofPerson", "blazon",
        "row", "share", "many", "apart", "nearest", "would", "best", "digest"};
    private static final int RUNS = 150;
    /** The digest at the end is the 512th call of a run: what later ones answer is free. */
    private static final int MOST_CALLS = 511;

    private ModelTest() {
    }

    public static void main(String[] args) {
        for (int run = 0; run < RUNS; run++) {
            goThrough(run);
        }
        Check.finish("ModelTest");
    }

    private static void goThrough(int run) {
        Random random = new Random(20260 + run);
        Blazonhall hall = new Blazonhall();
        Model model = new Model();
        // Few wrong arguments in most runs, and many in some; few of one sort let ties arise.
        int wrongOfHundred = run % 8 == 0 ? 40 : 3;
        int variety = run % 3 == 0 ? 3 : 8;
        int fullOnce = run % 5 == 0 ? 60 : 200;
        for (int i = 0; i < MOST_CALLS; i++) {
            int calls = i < fullOnce && random.nextInt(3) > 0 ? 10 : CALLS.length;
            String name = CALLS[random.nextInt(calls)];
            int[] v = new int[4];
            for (int place = 0; place < v.length; place++) {
                v[place] = argument(random, name, place, variety, wrongOfHundred);
            }
            String told = "run " + run + ", call " + i + ": " + name + "(" + v[0] + ", " + v[1]
                    + ", " + v[2] + ", " + v[3] + ")";
            Check.due(told, Check.outcome(() -> call(hall, name, v)),
                    model.call(name, v[0], v[1], v[2], v[3]));
        }
        Check.due("run " + run + ": digest at the end", hall.digest(),
                model.call("digest", 0, 0, 0, 0));
    }

    private static int argument(Random random, String name, int place, int variety, int wrong) {
        if (random.nextInt(100) < wrong) {
            int[] wrongs = {-1, 4, 6, 8, 9, 10, 12, Integer.MIN_VALUE, Integer.MAX_VALUE, -100};
            return wrongs[random.nextInt(wrongs.length)];
        }
        switch (name) {
            case "field":
                return random.nextInt(place == 0 ? 6 : variety);
            case "ordinary":
                return random.nextInt(place == 0 ? 10 : place == 1 ? 8 : variety);
            case "charge":
                return random.nextInt(place == 0 ? 10 : place == 1 ? 6 : place == 2 ? 4 : variety);
            case "impale": case "quarter": case "over": case "founder":
                return random.nextInt(random.nextBoolean() ? 4 : 10);
            case "born": case "apart":
                return random.nextInt(random.nextBoolean() ? 4 : 12);
            case "grant":
                return random.nextInt(place == 0 ? 12 : 10);
            case "many":
                return random.nextInt(8);
            case "best":
                return place == 1 ? random.nextInt(2) : random.nextInt(10);
            case "would":
                return random.nextInt(place < 2 ? 12 : 8);
            default:
                return random.nextInt(place == 0 ? 12 : 8);
        }
    }

    private static Object call(Blazonhall hall, String name, int[] v) {
        switch (name) {
            case "field": return hall.field(v[0], v[1], v[2]);
            case "ordinary": return hall.ordinary(v[0], v[1], v[2]);
            case "charge": return hall.charge(v[0], v[1], v[2], v[3]);
            case "impale": return hall.impale(v[0], v[1]);
            case "quarter": return hall.quarter(v[0], v[1], v[2], v[3]);
            case "over": return hall.over(v[0], v[1]);
            case "founder": return hall.founder(v[0]);
            case "born": return hall.born(v[0], v[1]);
            case "grant": return hall.grant(v[0], v[1]);
            case "ring": return hall.ring();
            case "at": return hall.at(v[0], v[1], v[2]);
            case "bears": return hall.bears(v[0], v[1], v[2]);
            case "ofArms": return hall.ofArms(v[0], v[1]);
            case "ofPerson": return hall.ofPerson(v[0], v[1]);
            case "blazon": return hall.blazon(v[0]);
            case "row": return hall.row(v[0], v[1]);
            case "share": return hall.share(v[0], v[1]);
            case "many": return hall.many(v[0]);
            case "apart": return hall.apart(v[0], v[1]);
            case "nearest": return hall.nearest(v[0]);
            case "would": return hall.would(v[0], v[1], v[2], v[3]);
            case "best": return hall.best(v[0], v[1] == 1);
            default: return hall.digest();
        }
    }
}
