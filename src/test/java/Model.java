import java.util.ArrayList;
import java.util.List;

/**
 * The document read once more, in another way than the class: nothing is kept but what was told,
 * and each answer is looked up from there by calls that call themselves.
 */
final class Model {
    static final String INDEX = "throws.IndexOutOfBoundsException";
    static final String ARGUMENT = "throws.IllegalArgumentException";
    static final String STATE = "throws.IllegalStateException";

    private static final String GROUPS = "MMCCCCCE";
    private static final String[] NAMES = {"Or", "Argent", "Gules", "Azure", "Sable", "Vert",
        "Purpure", "Ermine"};
    private static final String[] DIVISIONS = {"", "Per pale ", "Per fess ", "Quarterly ",
        "Per bend ", "Chequy "};
    private static final String[] ORDINARIES = {"", "pale", "fess", "bend", "cross", "saltire",
        "chief", "bordure"};
    private static final String[] KINDS = {"lion", "eagle", "rose", "star", "boar", "tower"};

    /** How made, division, first, second, ordinary, its tincture, kind, number, their tincture. */
    private final List<int[]> simple = new ArrayList<>();
    /** For each arms the arms that are shown; empty for simple ones. */
    private final List<int[]> shown = new ArrayList<>();
    /** For each of people: arms, first, other, and whether quartered (1) or not (0). */
    private final List<int[]> people = new ArrayList<>();
    private int refused = 0;

    Object call(String name, int a, int b, int c, int d) {
        switch (name) {
            case "field": return field(a, b, c);
            case "ordinary": return ordinary(a, b, c);
            case "charge": return charge(a, b, c, d);
            case "impale": return marshal(1, a, b);
            case "quarter": return marshal(2, a, b, c, d);
            case "over": return marshal(3, a, b);
            case "founder": return founder(a);
            case "born": return born(a, b);
            case "grant": return grant(a, b);
            case "ring": return ++refused;
            case "at": return isArms(a) && in(b, 8) && in(c, 8) ? (Object) at(a, b, c) : INDEX;
            case "bears":
                return isPerson(a) && in(b, 8) && in(c, 8) ? (Object) bears(a, b, c) : INDEX;
            case "ofArms": return !isArms(a) ? INDEX : !in(b, 8) ? ARGUMENT : (Object) ofArms(a, b);
            case "ofPerson":
                return !isPerson(a) ? INDEX : !in(b, 8) ? ARGUMENT : (Object) ofPerson(a, b);
            case "blazon": return isArms(a) ? blazon(a) : INDEX;
            case "row": return isPerson(a) && in(b, 8) ? row(a, b) : INDEX;
            case "share": return !isArms(a) ? INDEX : !in(b, 8) ? ARGUMENT : (Object) share(a, b);
            case "many": return in(a, 8) ? (Object) many(a) : ARGUMENT;
            case "apart": return isPerson(a) && isPerson(b) ? (Object) apart(a, b) : INDEX;
            case "nearest": return isPerson(a) ? (Object) nearest(a) : INDEX;
            case "would": return would(a, b, c, d);
            case "best":
                return !isArms(a) ? INDEX : simple.get(a)[0] != 0 ? STATE
                        : (Object) best(a, b == 1);
            default: return digest();
        }
    }

    private static boolean in(int number, int below) {
        return 0 <= number && number < below;
    }

    private boolean isArms(int number) {
        return in(number, shown.size());
    }

    private boolean isPerson(int number) {
        return in(number, people.size());
    }

    private Object field(int division, int first, int second) {
        if (!in(division, 6) || !in(first, 8) || !in(second, 8)) {
            return ARGUMENT;
        }
        if (shown.size() == 10) {
            return STATE;
        }
        simple.add(new int[] {0, division, first, second, 0, 0, 0, 0, 0});
        shown.add(new int[0]);
        return shown.size() - 1;
    }

    private Object ordinary(int arms, int ordinary, int tincture) {
        if (!isArms(arms)) {
            return INDEX;
        }
        if (!in(ordinary, 8) || !in(tincture, 8)) {
            return ARGUMENT;
        }
        if (simple.get(arms)[0] != 0) {
            return STATE;
        }
        simple.get(arms)[4] = ordinary;
        simple.get(arms)[5] = tincture;
        return faults(arms);
    }

    private Object charge(int arms, int kind, int number, int tincture) {
        if (!isArms(arms)) {
            return INDEX;
        }
        if (!in(kind, 6) || !in(number, 4) || !in(tincture, 8)) {
            return ARGUMENT;
        }
        if (simple.get(arms)[0] != 0) {
            return STATE;
        }
        simple.get(arms)[6] = kind;
        simple.get(arms)[7] = number;
        simple.get(arms)[8] = tincture;
        return faults(arms);
    }

    private Object marshal(int made, int... of) {
        for (int one : of) {
            if (!isArms(one)) {
                return INDEX;
            }
        }
        if (shown.size() == 10) {
            return STATE;
        }
        simple.add(new int[] {made, -1, -1, -1, -1, -1, -1, -1, -1});
        shown.add(of);
        return shown.size() - 1;
    }

    private Object founder(int arms) {
        if (!isArms(arms)) {
            return INDEX;
        }
        if (people.size() == 12) {
            return STATE;
        }
        people.add(new int[] {arms, -1, -1, 0});
        return people.size() - 1;
    }

    private Object born(int first, int other) {
        if (!isPerson(first) || !isPerson(other)) {
            return INDEX;
        }
        if (first == other) {
            return ARGUMENT;
        }
        if (people.size() == 12) {
            return STATE;
        }
        people.add(new int[] {-1, first, other, sole(other)});
        return people.size() - 1;
    }

    private Object grant(int person, int arms) {
        if (!isPerson(person) || !isArms(arms)) {
            return INDEX;
        }
        if (people.get(person)[0] < 0) {
            return STATE;
        }
        int before = people.get(person)[0];
        people.get(person)[0] = arms;
        return before;
    }

    private static boolean onField(int division, int x, int y) {
        boolean right = x > 3;
        boolean below = y > 3;
        return division == 1 && right || division == 2 && below || division == 3 && right ^ below
                || division == 4 && x < y || division == 5 && ((x >> 1) + (y >> 1) & 1) != 0;
    }

    private static boolean onOrdinary(int ordinary, int x, int y) {
        switch (ordinary) {
            case 1: return "..XX....".charAt((x + 7) % 8) == 'X';
            case 2: return onOrdinary(1, y, x);
            case 3: return x - y == 0 || x - y == 1 || y - x == 1;
            case 4: return onOrdinary(1, x, y) || onOrdinary(2, x, y);
            case 5: return x - y == 0 || 7 - x == y;
            case 6: return y == 0 || y == 1;
            case 7: return Math.min(Math.min(x, y), 7 - Math.max(x, y)) == 0;
            default: return false;
        }
    }

    private static boolean onCharges(int number, int x, int y) {
        int[][] corners = {{}, {33}, {13, 53}, {11, 51, 35}};
        for (int corner : corners[number]) {
            if (x - corner / 10 >> 1 == 0 && y - corner % 10 >> 1 == 0) {
                return true;
            }
        }
        return false;
    }

    private static int layer(int[] told, int x, int y, int layers) {
        if (layers > 1 && onCharges(told[7], x, y)) {
            return told[8];
        }
        if (layers > 0 && onOrdinary(told[4], x, y)) {
            return told[5];
        }
        return onField(told[1], x, y) ? told[3] : told[2];
    }

    private static int faultsOf(int[] told) {
        boolean[] clashes = {told[4] > 0, told[7] > 0};
        for (int point = 0; point < 64; point++) {
            int x = point & 7;
            int y = point >> 3;
            if (onOrdinary(told[4], x, y)) {
                clashes[0] &= GROUPS.charAt(told[5]) == GROUPS.charAt(layer(told, x, y, 0));
            }
            if (onCharges(told[7], x, y)) {
                clashes[1] &= GROUPS.charAt(told[8]) == GROUPS.charAt(layer(told, x, y, 1));
            }
        }
        return (clashes[0] ? 1 : 0) + (clashes[1] ? 1 : 0);
    }

    private int faults(int arms) {
        int[] each = new int[arms + 1];
        for (int i = 0; i <= arms; i++) {
            each[i] = simple.get(i)[0] == 0 ? faultsOf(simple.get(i)) : 0;
            for (int one : shown.get(i)) {
                each[i] += each[one];
            }
        }
        return each[arms];
    }

    private int at(int arms, int x, int y) {
        int[] of = shown.get(arms);
        switch (simple.get(arms)[0]) {
            case 0:
                return layer(simple.get(arms), x, y, 2);
            case 1:
                return x < 4 ? at(of[0], 2 * x, y) : at(of[1], 2 * (x - 4), y);
            case 2:
                return at(of[(y < 4 ? 0 : 2) + (x < 4 ? 0 : 1)], 2 * (x % 4), 2 * (y % 4));
            default:
                return x > 1 && x < 6 && y > 1 && y < 6 ? at(of[1], 2 * x - 4, 2 * y - 4)
                        : at(of[0], x, y);
        }
    }

    private int rank(int person) {
        int[] told = people.get(person);
        int rank = told[1] < 0 ? 0 : 1;
        for (int i = 0; i < person; i++) {
            rank += told[1] >= 0 && people.get(i)[1] == told[1] ? 1 : 0;
        }
        return rank;
    }

    private int bears(int person, int x, int y) {
        int[] told = people.get(person);
        if (told[0] >= 0) {
            return at(told[0], x, y);
        }
        int rank = rank(person);
        if (rank >= 2 && y == 1 && (x == 3 || x == 4)) {
            return rank % 2 != 0 ? 4 : 0;
        }
        if (told[3] == 0) {
            return bears(told[1], x, y);
        }
        return bears(x / 4 == y / 4 ? told[1] : told[2], x % 4 * 2, y % 4 * 2);
    }

    private int sole(int person) {
        int[] told = people.get(person);
        for (int i = 0; i < people.size() && told[0] < 0; i++) {
            int[] each = people.get(i);
            boolean shares = each[1] == told[1] || each[2] == told[1] || each[1] == told[2]
                    || each[2] == told[2];
            if (i != person && each[0] < 0 && shares) {
                return 0;
            }
        }
        return 1;
    }

    private int generations(int person) {
        int[] told = people.get(person);
        return told[0] >= 0 ? 0 : 1 + Math.max(generations(told[1]), generations(told[2]));
    }

    private int seen(int arms) {
        int set = 0;
        for (int point = 0; point < 64; point++) {
            set |= 1 << at(arms, point % 8, point / 8);
        }
        return set;
    }

    private int ofArms(int arms, int what) {
        int[] told = simple.get(arms);
        int bearers = 0;
        for (int[] each : people) {
            bearers += each[0] == arms ? 1 : 0;
        }
        int kind = told[7] > 0 ? told[6] : -1;
        int[] answers = {told[0], told[1], told[4], kind, told[7], faults(arms), seen(arms),
            bearers};
        return answers[what];
    }

    private int ofPerson(int person, int what) {
        int[] told = people.get(person);
        int children = 0;
        for (int[] each : people) {
            children += each[1] == person || each[2] == person ? 1 : 0;
        }
        int[] answers = {told[0], told[1], told[2], rank(person), sole(person), told[3], children,
            generations(person)};
        return answers[what];
    }

    private String words(int arms) {
        int[] told = simple.get(arms);
        int[] of = shown.get(arms);
        if (told[0] == 0) {
            String words = DIVISIONS[told[1]] + NAMES[told[2]];
            words += told[1] == 0 ? "" : " and " + NAMES[told[3]];
            words += told[4] == 0 ? "" : ", a " + ORDINARIES[told[4]] + " " + NAMES[told[5]];
            String[] counts = {"", told[6] == 1 ? "an " : "a ", "two ", "three "};
            return told[7] == 0 ? words : words + ", " + counts[told[7]] + KINDS[told[6]]
                    + (told[7] == 1 ? "" : "s") + " " + NAMES[told[8]];
        }
        String[][] between = {{}, {"[", " impaling ", "]"}, {"[1 ", "; 2 ", "; 3 ", "; 4 ", "]"},
            {"[", ", over all ", "]"}};
        StringBuilder words = new StringBuilder();
        for (int i = 0; i < of.length && words.length() < 300; i++) {
            words.append(between[told[0]][i]).append(words(of[i]));
        }
        return words.append(between[told[0]][of.length]).toString();
    }

    private String blazon(int arms) {
        String words = words(arms);
        return words.length() > 200 ? words.substring(0, 200) : words;
    }

    private String row(int person, int y) {
        StringBuilder row = new StringBuilder();
        for (int x = 0; x < 8; x++) {
            row.append("OAGZSVPE".charAt(bears(person, x, y)));
        }
        return row.toString();
    }

    private double share(int arms, int tincture) {
        int points = 0;
        for (int point = 0; point < 64; point++) {
            points += at(arms, point % 8, point / 8) == tincture ? 1 : 0;
        }
        return points / 64.0;
    }

    private int many(int what) {
        int founders = 0;
        int faults = 0;
        int faultless = 0;
        int pairs = 0;
        int generations = 0;
        for (int i = 0; i < shown.size(); i++) {
            faults += faults(i);
            faultless += faults(i) == 0 ? 1 : 0;
        }
        for (int i = 0; i < people.size(); i++) {
            founders += people.get(i)[0] >= 0 ? 1 : 0;
            generations = Math.max(generations, generations(i));
            for (int j = 0; j < i && what == 5; j++) {
                pairs += apart(i, j) == 0 ? 1 : 0;
            }
        }
        int[] answers = {shown.size(), people.size(), founders, faults, faultless, pairs, refused,
            generations};
        return answers[what];
    }

    private int apart(int one, int other) {
        int points = 0;
        for (int point = 0; point < 64; point++) {
            int x = point % 8;
            int y = point / 8;
            points += bears(one, x, y) != bears(other, x, y) ? 1 : 0;
        }
        return points;
    }

    private int nearest(int person) {
        int least = Integer.MAX_VALUE;
        for (int i = 0; i < people.size(); i++) {
            least = i == person ? least : Math.min(least, apart(person, i) * 100 + i);
        }
        return people.size() < 2 ? -1 : least % 100;
    }

    private Object would(int first, int other, int x, int y) {
        if (!isPerson(first) || !isPerson(other) || !in(x, 8) || !in(y, 8)) {
            return INDEX;
        }
        if (first == other) {
            return ARGUMENT;
        }
        people.add(new int[] {-1, first, other, sole(other)});
        int tincture = bears(people.size() - 1, x, y);
        people.remove(people.size() - 1);
        return tincture;
    }

    private int best(int arms, boolean isCharge) {
        int[] told = simple.get(arms);
        int place = isCharge ? 8 : 5;
        int kept = told[place];
        int best = -1;
        int rating = Integer.MAX_VALUE;
        for (int tincture = 0; tincture < 8 && told[isCharge ? 7 : 4] > 0; tincture++) {
            told[place] = tincture;
            int rated = 100 * faultsOf(told) - Integer.bitCount(seen(arms));
            if (rated < rating) {
                rating = rated;
                best = tincture;
            }
        }
        told[place] = kept;
        return best;
    }

    private long digest() {
        int[] xs = {1, 4, 3, 6, 0, 3};
        int[] ys = {1, 2, 4, 6, 7, 1};
        List<Integer> values = new ArrayList<>();
        for (int what = 0; what < 8; what++) {
            values.add(many(what));
        }
        for (int arms = 0; arms < shown.size(); arms++) {
            for (int what = 0; what < 8; what++) {
                values.add(ofArms(arms, what));
            }
            for (int i = 0; i < 5; i++) {
                values.add(at(arms, xs[i], ys[i]));
            }
            values.add(blazon(arms).length());
            if (simple.get(arms)[0] == 0) {
                values.add(best(arms, false));
                values.add(best(arms, true));
            }
        }
        for (int person = 0; person < people.size(); person++) {
            for (int what = 0; what < 8; what++) {
                values.add(ofPerson(person, what));
            }
            for (int i = 0; i < 6; i++) {
                values.add(bears(person, xs[i], ys[i]));
            }
            values.add(nearest(person));
        }
        long d = 58314;
        for (int value : values) {
            d = d * 31 + value;
        }
        return d;
    }
}
