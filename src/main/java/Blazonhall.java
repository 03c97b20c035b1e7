import java.util.ArrayList;

/**
 * A hall of arms: shields are told and put together, people inherit them.
 *
 * What follows from what was told (pictures, faults, words) is drawn anew after each change, and
 * from the smallest number on: arms show only arms of a smaller number, and people inherit only
 * from people of a smaller number, so one pass is enough and nothing calls itself.
 */
public final class Blazonhall {
    private static final int NONE = -1;
    private static final int MOST_ARMS = 10;
    private static final int MOST_PEOPLE = 12;
    private static final int MOST_SIGNS = 200;
    private static final int SIDE = 8;
    private static final int HALF = 4;
    private static final int POINTS = 64;

    private static final int DIVISIONS = 6;
    private static final int KINDS = 6;
    private static final int MOST_CHARGES = 3;
    private static final int EAGLE = 1;

    private static final int TINCTURES = 8;
    private static final int OR = 0;
    private static final int SABLE = 4;
    private static final int ERMINE = 7;
    private static final int LAST_METAL = 1;
    // Sets of tinctures that clash with one another: 0 and 1, 2 to 6, 7 alone.
    private static final int METALS = 3;
    private static final int COLOURS = 124;
    private static final int ERMINE_ALONE = 128;
    private static final char[] LETTERS = {'O', 'A', 'G', 'Z', 'S', 'V', 'P', 'E'};

    private static final int MADE_SIMPLE = 0;
    private static final int MADE_IMPALED = 1;
    private static final int MADE_QUARTERED = 2;
    private static final int MADE_OVER = 3;

    private static final long DIGEST_START = 58314;
    private static final int[] DIGEST_XS = {1, 4, 3, 6, 0};
    private static final int[] DIGEST_YS = {1, 2, 4, 6, 7};

    private final ArrayList<Arms> allArms = new ArrayList<Arms>();
    private final ArrayList<Person> people = new ArrayList<Person>();
    private int refused = 0;

    public Blazonhall() {
    }

    // ---- arms

    public int field(int division, int first, int second)
            throws IllegalArgumentException, IllegalStateException {
        if (division < 0 || division >= DIVISIONS) {
            throw new IllegalArgumentException("no such division");
        }
        needTincture(first);
        needTincture(second);
        needRoomForArms();
        return enrol(new Simple(allArms.size(), division, first, second));
    }

    public int ordinary(int arms, int ordinary, int tincture)
            throws IndexOutOfBoundsException, IllegalArgumentException, IllegalStateException {
        Arms told = armsOf(arms);
        if (!isUnderEight(ordinary)) {
            throw new IllegalArgumentException("no such ordinary");
        }
        needTincture(tincture);
        Simple simple = simpleOf(told);
        simple.tellOrdinary(ordinary, tincture);
        redrawArms();
        redrawPeople();
        return simple.faults;
    }

    public int charge(int arms, int kind, int number, int tincture)
            throws IndexOutOfBoundsException, IllegalArgumentException, IllegalStateException {
        Arms told = armsOf(arms);
        if (kind < 0 || kind >= KINDS) {
            throw new IllegalArgumentException("no such kind");
        }
        if (number < 0 || number > MOST_CHARGES) {
            throw new IllegalArgumentException("no such number of charges");
        }
        needTincture(tincture);
        Simple simple = simpleOf(told);
        simple.tellCharges(kind, number, tincture);
        redrawArms();
        redrawPeople();
        return simple.faults;
    }

    public int impale(int left, int right)
            throws IndexOutOfBoundsException, IllegalStateException {
        Arms onLeft = armsOf(left);
        Arms onRight = armsOf(right);
        needRoomForArms();
        return enrol(new Impaled(allArms.size(), onLeft, onRight));
    }

    public int quarter(int first, int second, int third, int fourth)
            throws IndexOutOfBoundsException, IllegalStateException {
        Arms aboveLeft = armsOf(first);
        Arms aboveRight = armsOf(second);
        Arms belowLeft = armsOf(third);
        Arms belowRight = armsOf(fourth);
        needRoomForArms();
        return enrol(new Quartered(allArms.size(), aboveLeft, aboveRight, belowLeft, belowRight));
    }

    public int over(int large, int small)
            throws IndexOutOfBoundsException, IllegalStateException {
        Arms below = armsOf(large);
        Arms above = armsOf(small);
        needRoomForArms();
        return enrol(new Overlaid(allArms.size(), below, above));
    }

    // ---- people

    public int founder(int arms) throws IndexOutOfBoundsException, IllegalStateException {
        Arms borne = armsOf(arms);
        needRoomForPeople();
        return welcome(new Founder(people.size(), borne));
    }

    public int born(int first, int other)
            throws IndexOutOfBoundsException, IllegalArgumentException, IllegalStateException {
        Person firstParent = personOf(first);
        Person otherParent = personOf(other);
        needTwo(first, other);
        needRoomForPeople();
        // Both are told before the child is there: it can itself end its parent's being sole.
        int rank = nextRankUnder(firstParent);
        boolean isQuartered = isSole(otherParent);
        return welcome(new Born(people.size(), firstParent, otherParent, rank, isQuartered));
    }

    public int grant(int person, int arms)
            throws IndexOutOfBoundsException, IllegalStateException {
        Person granted = personOf(person);
        Arms now = armsOf(arms);
        if (!(granted instanceof Founder)) {
            throw new IllegalStateException("only a founder is granted arms");
        }
        Founder founder = (Founder) granted;
        int before = founder.borne.number;
        founder.borne = now;
        redrawPeople();
        return before;
    }

    public int ring() {
        refused++;
        return refused;
    }

    // ---- what is asked

    public int at(int arms, int x, int y) throws IndexOutOfBoundsException {
        Arms asked = armsOf(arms);
        needPoint(x, y);
        return asked.picture.tinctureOn(x, y);
    }

    public int bears(int person, int x, int y) throws IndexOutOfBoundsException {
        Person asked = personOf(person);
        needPoint(x, y);
        return asked.picture.tinctureOn(x, y);
    }

    public int ofArms(int arms, int what)
            throws IndexOutOfBoundsException, IllegalArgumentException {
        Arms asked = armsOf(arms);
        needQuestion(what);
        switch (what) {
            case 0:
                return asked.made;
            case 5:
                return asked.faults;
            case 6:
                return asked.picture.seen();
            case 7:
                return foundersWith(asked);
            default:
                return detailOf(asked, what);
        }
    }

    public int ofPerson(int person, int what)
            throws IndexOutOfBoundsException, IllegalArgumentException {
        Person asked = personOf(person);
        needQuestion(what);
        switch (what) {
            case 4:
                return isSole(asked) ? 1 : 0;
            case 6:
                return childrenOf(asked);
            case 7:
                return asked.generation;
            default:
                return originOf(asked, what);
        }
    }

    public String blazon(int arms) throws IndexOutOfBoundsException {
        return armsOf(arms).words.asText();
    }

    public String row(int person, int y) throws IndexOutOfBoundsException {
        Person asked = personOf(person);
        needPoint(0, y);
        char[] letters = new char[SIDE];
        for (int x = 0; x < SIDE; x++) {
            letters[x] = letterOf(asked.picture.tinctureOn(x, y));
        }
        return new String(letters);
    }

    public double share(int arms, int tincture)
            throws IndexOutOfBoundsException, IllegalArgumentException {
        Arms asked = armsOf(arms);
        needTincture(tincture);
        return asked.picture.pointsOf(tincture) / 64.0;
    }

    public int many(int what) throws IllegalArgumentException {
        needQuestion(what);
        switch (what) {
            case 0:
                return allArms.size();
            case 1:
                return people.size();
            case 2:
                return countFounders();
            case 3:
                return faultsOfAll();
            case 4:
                return countFaultless();
            case 5:
                return pairsAlike();
            case 6:
                return refused;
            default:
                return greatestGeneration();
        }
    }

    public int apart(int one, int other) throws IndexOutOfBoundsException {
        Person asked = personOf(one);
        Person compared = personOf(other);
        return asked.picture.differencesFrom(compared.picture);
    }

    // ---- what would be (nothing is changed)

    public int nearest(int person) throws IndexOutOfBoundsException {
        Person asked = personOf(person);
        int found = NONE;
        int least = POINTS + 1;
        for (int i = 0; i < people.size(); i++) {
            Person compared = people.get(i);
            if (compared != asked) {
                int differences = asked.picture.differencesFrom(compared.picture);
                if (differences < least) {
                    least = differences;
                    found = i;
                }
            }
        }
        return found;
    }

    public int would(int first, int other, int x, int y)
            throws IndexOutOfBoundsException, IllegalArgumentException {
        Person firstParent = personOf(first);
        Person otherParent = personOf(other);
        needPoint(x, y);
        needTwo(first, other);
        int rank = nextRankUnder(firstParent);
        if (isMarked(rank, x, y)) {
            return markOf(rank);
        }
        return inherited(firstParent, otherParent, isSole(otherParent), x, y);
    }

    public int best(int arms, boolean isCharge)
            throws IndexOutOfBoundsException, IllegalStateException {
        return simpleOf(armsOf(arms)).bestTincture(isCharge);
    }

    public long digest() {
        long d = DIGEST_START;
        for (int what = 0; what < 8; what++) {
            d = d * 31 + many(what);
        }
        for (int i = 0; i < allArms.size(); i++) {
            d = digestWithArms(d, allArms.get(i));
        }
        for (int i = 0; i < people.size(); i++) {
            d = digestWithPerson(d, people.get(i));
        }
        return d;
    }

    private long digestWithArms(long before, Arms each) {
        long d = before;
        for (int what = 0; what < 8; what++) {
            d = d * 31 + ofArms(each.number, what);
        }
        d = digestWithPicture(d, each.picture);
        d = d * 31 + each.words.length;
        if (each instanceof Simple) {
            d = d * 31 + ((Simple) each).bestTincture(false);
            d = d * 31 + ((Simple) each).bestTincture(true);
        }
        return d;
    }

    private long digestWithPerson(long before, Person each) {
        long d = before;
        for (int what = 0; what < 8; what++) {
            d = d * 31 + ofPerson(each.number, what);
        }
        d = digestWithPicture(d, each.picture);
        d = d * 31 + each.picture.tinctureOn(3, 1);
        return d * 31 + nearest(each.number);
    }

    private static long digestWithPicture(long before, Picture picture) {
        long d = before;
        for (int i = 0; i < DIGEST_XS.length && i < DIGEST_YS.length; i++) {
            d = d * 31 + picture.tinctureOn(DIGEST_XS[i], DIGEST_YS[i]);
        }
        return d;
    }

    // ---- what a call needs

    private Arms armsOf(int number) {
        if (number < 0 || number >= allArms.size()) {
            throw new IndexOutOfBoundsException("no such arms");
        }
        return allArms.get(number);
    }

    private Person personOf(int number) {
        if (number < 0 || number >= people.size()) {
            throw new IndexOutOfBoundsException("no such person");
        }
        return people.get(number);
    }

    private static Simple simpleOf(Arms told) {
        if (!(told instanceof Simple)) {
            throw new IllegalStateException("the arms are not simple");
        }
        return (Simple) told;
    }

    private static void needPoint(int x, int y) {
        if (!isUnderEight(x) || !isUnderEight(y)) {
            throw new IndexOutOfBoundsException("no such point");
        }
    }

    private static void needTincture(int tincture) {
        if (!isUnderEight(tincture)) {
            throw new IllegalArgumentException("no such tincture");
        }
    }

    private static void needQuestion(int what) {
        if (!isUnderEight(what)) {
            throw new IllegalArgumentException("no such question");
        }
    }

    private static void needTwo(int first, int other) {
        if (first == other) {
            throw new IllegalArgumentException("the parents are the same");
        }
    }

    private void needRoomForArms() {
        if (allArms.size() >= MOST_ARMS) {
            throw new IllegalStateException("there are ten arms");
        }
    }

    private void needRoomForPeople() {
        if (people.size() >= MOST_PEOPLE) {
            throw new IllegalStateException("there are twelve people");
        }
    }

    /** Points, tinctures, ordinaries and questions all go from 0 to 7. */
    private static boolean isUnderEight(int number) {
        return number >= 0 && number < 8;
    }

    // ---- how the state is kept

    private int enrol(Arms made) {
        allArms.add(made);
        made.redraw();
        return made.number;
    }

    private int welcome(Person come) {
        people.add(come);
        come.redraw();
        return come.number;
    }

    private void redrawArms() {
        for (int i = 0; i < allArms.size(); i++) {
            allArms.get(i).redraw();
        }
    }

    private void redrawPeople() {
        for (int i = 0; i < people.size(); i++) {
            people.get(i).redraw();
        }
    }

    // ---- what follows from the state

    private static int detailOf(Arms asked, int what) {
        if (!(asked instanceof Simple)) {
            return NONE;
        }
        Simple simple = (Simple) asked;
        switch (what) {
            case 1:
                return simple.division;
            case 2:
                return simple.ordinary;
            case 3:
                return simple.charges == 0 ? NONE : simple.kind;
            default:
                return simple.charges;
        }
    }

    private static int originOf(Person asked, int what) {
        if (asked instanceof Born) {
            return originOfBorn((Born) asked, what);
        }
        if (what == 0 && asked instanceof Founder) {
            return ((Founder) asked).borne.number;
        }
        return what < 3 ? NONE : 0;
    }

    private static int originOfBorn(Born asked, int what) {
        switch (what) {
            case 1:
                return asked.first.number;
            case 2:
                return asked.other.number;
            case 3:
                return asked.rank;
            case 5:
                return asked.isQuartered ? 1 : 0;
            default:
                return NONE;
        }
    }

    private int nextRankUnder(Person first) {
        int rank = 1;
        for (int i = 0; i < people.size(); i++) {
            Person each = people.get(i);
            if (each instanceof Born && ((Born) each).first == first) {
                rank++;
            }
        }
        return rank;
    }

    private int childrenOf(Person parent) {
        int count = 0;
        for (int i = 0; i < people.size(); i++) {
            if (people.get(i).isChildOf(parent)) {
                count++;
            }
        }
        return count;
    }

    private boolean isSole(Person asked) {
        if (!(asked instanceof Born)) {
            return true;
        }
        Born child = (Born) asked;
        for (int i = 0; i < people.size(); i++) {
            Person each = people.get(i);
            if (each != child && (each.isChildOf(child.first) || each.isChildOf(child.other))) {
                return false;
            }
        }
        return true;
    }

    private int foundersWith(Arms borne) {
        int count = 0;
        for (int i = 0; i < people.size(); i++) {
            Person each = people.get(i);
            if (each instanceof Founder && ((Founder) each).borne == borne) {
                count++;
            }
        }
        return count;
    }

    private int countFounders() {
        int count = 0;
        for (int i = 0; i < people.size(); i++) {
            if (people.get(i) instanceof Founder) {
                count++;
            }
        }
        return count;
    }

    private int faultsOfAll() {
        int sum = 0;
        for (int i = 0; i < allArms.size(); i++) {
            sum += allArms.get(i).faults;
        }
        return sum;
    }

    private int countFaultless() {
        int count = 0;
        for (int i = 0; i < allArms.size(); i++) {
            if (allArms.get(i).faults == 0) {
                count++;
            }
        }
        return count;
    }

    private int pairsAlike() {
        int count = 0;
        for (int i = 0; i < people.size(); i++) {
            for (int j = i + 1; j < people.size(); j++) {
                if (people.get(i).picture.differencesFrom(people.get(j).picture) == 0) {
                    count++;
                }
            }
        }
        return count;
    }

    private int greatestGeneration() {
        int greatest = 0;
        for (int i = 0; i < people.size(); i++) {
            greatest = Math.max(greatest, people.get(i).generation);
        }
        return greatest;
    }

    // ---- where things are on a shield

    /** Where in the whole shield a coordinate looks that is shown at half the size. */
    private static int shrunk(int coordinate) {
        return 2 * (coordinate % HALF);
    }

    private static boolean isOfSecond(int division, int x, int y) {
        switch (division) {
            case 1:
                return x >= HALF;
            case 2:
                return y >= HALF;
            case 3:
                return (x >= HALF) != (y >= HALF);
            case 4:
                return x < y;
            case 5:
                return (x / 2 + y / 2) % 2 == 1;
            default:
                return false;
        }
    }

    private static boolean isUnderOrdinary(int ordinary, int x, int y) {
        switch (ordinary) {
            case 1:
                return isMiddle(x);
            case 2:
                return isMiddle(y);
            case 3:
                return Math.abs(x - y) <= 1;
            case 4:
                return isMiddle(x) || isMiddle(y);
            case 5:
                return x == y || x + y == SIDE - 1;
            case 6:
                return y < 2;
            case 7:
                return isEdge(x) || isEdge(y);
            default:
                return false;
        }
    }

    private static boolean isMiddle(int coordinate) {
        return coordinate == 3 || coordinate == 4;
    }

    private static boolean isEdge(int coordinate) {
        return coordinate == 0 || coordinate == SIDE - 1;
    }

    private static boolean isUnderCharges(int charges, int x, int y) {
        switch (charges) {
            case 1:
                return isUnderCharge(3, 3, x, y);
            case 2:
                return isUnderCharge(1, 3, x, y) || isUnderCharge(5, 3, x, y);
            case 3:
                return isUnderCharge(1, 1, x, y) || isUnderCharge(5, 1, x, y)
                        || isUnderCharge(3, 5, x, y);
            default:
                return false;
        }
    }

    private static boolean isUnderCharge(int left, int top, int x, int y) {
        return x >= left && x <= left + 1 && y >= top && y <= top + 1;
    }

    private static boolean isMarked(int rank, int x, int y) {
        return rank > 1 && y == 1 && isMiddle(x);
    }

    private static int markOf(int rank) {
        return rank % 2 == 1 ? SABLE : OR;
    }

    private static int inherited(Person first, Person other, boolean isQuartered, int x, int y) {
        if (!isQuartered) {
            return first.picture.tinctureOn(x, y);
        }
        Person shown = (x < HALF) == (y < HALF) ? first : other;
        return shown.picture.tinctureOn(shrunk(x), shrunk(y));
    }

    private static int setOf(boolean isThere, int tincture) {
        return isThere ? 1 << tincture : 0;
    }

    /** Whether a tincture clashes with each one of a set; with none it does not. */
    private static boolean isClashing(int tincture, int beneath) {
        int alike = COLOURS;
        if (tincture <= LAST_METAL) {
            alike = METALS;
        } else if (tincture == ERMINE) {
            alike = ERMINE_ALONE;
        }
        return beneath != 0 && (beneath & ~alike) == 0;
    }

    // ---- names

    private static char letterOf(int tincture) {
        return tincture >= 0 && tincture < LETTERS.length ? LETTERS[tincture] : '?';
    }

    private static String nameOfTincture(int tincture) {
        switch (tincture) {
            case 0:
                return "Or";
            case 1:
                return "Argent";
            case 2:
                return "Gules";
            case 3:
                return "Azure";
            case 4:
                return "Sable";
            case 5:
                return "Vert";
            case 6:
                return "Purpure";
            default:
                return "Ermine";
        }
    }

    private static String nameOfDivision(int division) {
        switch (division) {
            case 1:
                return "Per pale ";
            case 2:
                return "Per fess ";
            case 3:
                return "Quarterly ";
            case 4:
                return "Per bend ";
            case 5:
                return "Chequy ";
            default:
                return "";
        }
    }

    private static String nameOfOrdinary(int ordinary) {
        switch (ordinary) {
            case 1:
                return "pale";
            case 2:
                return "fess";
            case 3:
                return "bend";
            case 4:
                return "cross";
            case 5:
                return "saltire";
            case 6:
                return "chief";
            case 7:
                return "bordure";
            default:
                return "";
        }
    }

    private static String nameOfKind(int kind) {
        switch (kind) {
            case 0:
                return "lion";
            case 1:
                return "eagle";
            case 2:
                return "rose";
            case 3:
                return "star";
            case 4:
                return "boar";
            default:
                return "tower";
        }
    }

    private static String countOfCharges(int charges, int kind) {
        if (charges == 1) {
            return kind == EAGLE ? "an " : "a ";
        }
        return charges == 2 ? "two " : "three ";
    }

    /** Which tincture is at each of the 64 points. */
    private static final class Picture {
        final int[] tinctures = new int[POINTS];

        int tinctureOn(int x, int y) {
            return isUnderEight(x) && isUnderEight(y) ? tinctures[y * SIDE + x] : NONE;
        }

        void paint(int x, int y, int tincture) {
            if (isUnderEight(x) && isUnderEight(y)) {
                tinctures[y * SIDE + x] = tincture;
            }
        }

        int seen() {
            int set = 0;
            for (int i = 0; i < POINTS; i++) {
                set |= 1 << tinctures[i];
            }
            return set;
        }

        int pointsOf(int tincture) {
            int count = 0;
            for (int i = 0; i < POINTS; i++) {
                if (tinctures[i] == tincture) {
                    count++;
                }
            }
            return count;
        }

        int differencesFrom(Picture other) {
            int count = 0;
            for (int i = 0; i < POINTS; i++) {
                if (tinctures[i] != other.tinctures[i]) {
                    count++;
                }
            }
            return count;
        }
    }

    /**
     * Words up to the 200th sign. Words that take in others may take them cut: they put at least
     * one sign ahead of them, so what is lacking would be cut off anyway.
     */
    private static final class Words {
        final char[] signs = new char[MOST_SIGNS];
        int length = 0;

        void clear() {
            length = 0;
        }

        Words say(String text) {
            for (int i = 0; i < text.length(); i++) {
                put(text.charAt(i));
            }
            return this;
        }

        Words sayAll(Words other) {
            for (int i = 0; i < other.length && i < MOST_SIGNS; i++) {
                put(other.signs[i]);
            }
            return this;
        }

        void put(char sign) {
            if (length >= 0 && length < MOST_SIGNS) {
                signs[length] = sign;
                length++;
            }
        }

        String asText() {
            int count = Math.max(0, Math.min(length, MOST_SIGNS));
            char[] text = new char[count];
            for (int i = 0; i < count; i++) {
                text[i] = signs[i];
            }
            return new String(text);
        }
    }

    private abstract static class Arms {
        final int number;
        final int made;
        final Picture picture = new Picture();
        final Words words = new Words();
        int faults = 0;

        Arms(int number, int made) {
            this.number = number;
            this.made = made;
        }

        final void redraw() {
            for (int y = 0; y < SIDE; y++) {
                for (int x = 0; x < SIDE; x++) {
                    picture.paint(x, y, shownOn(x, y));
                }
            }
            faults = faultsShown();
            words.clear();
            sayWords();
        }

        abstract int shownOn(int x, int y);

        abstract int faultsShown();

        abstract void sayWords();
    }

    private static final class Simple extends Arms {
        final int division;
        final int first;
        final int second;
        int ordinary = 0;
        int ordinaryTincture = 0;
        int kind = 0;
        int charges = 0;
        int chargeTincture = 0;

        // What lies where, whichever tinctures the ordinary and the charges have.
        int fieldUnderOrdinary = 0;
        int fieldUnderCharges = 0;
        int fieldSeen = 0;
        boolean isOrdinaryUnderCharges = false;
        boolean isOrdinarySeen = false;

        Simple(int number, int division, int first, int second) {
            super(number, MADE_SIMPLE);
            this.division = division;
            this.first = first;
            this.second = second;
            lookThrough();
        }

        void tellOrdinary(int newOrdinary, int tincture) {
            ordinary = newOrdinary;
            ordinaryTincture = tincture;
            lookThrough();
        }

        void tellCharges(int newKind, int newCharges, int tincture) {
            kind = newKind;
            charges = newCharges;
            chargeTincture = tincture;
            lookThrough();
        }

        private void lookThrough() {
            fieldUnderOrdinary = 0;
            fieldUnderCharges = 0;
            fieldSeen = 0;
            isOrdinaryUnderCharges = false;
            isOrdinarySeen = false;
            for (int y = 0; y < SIDE; y++) {
                for (int x = 0; x < SIDE; x++) {
                    lookThroughPoint(x, y);
                }
            }
        }

        private void lookThroughPoint(int x, int y) {
            int ofField = 1 << fieldOn(x, y);
            boolean hasOrdinary = isUnderOrdinary(ordinary, x, y);
            boolean hasCharge = isUnderCharges(charges, x, y);
            if (hasOrdinary) {
                fieldUnderOrdinary |= ofField;
                isOrdinaryUnderCharges = isOrdinaryUnderCharges || hasCharge;
                isOrdinarySeen = isOrdinarySeen || !hasCharge;
            } else if (hasCharge) {
                fieldUnderCharges |= ofField;
            } else {
                fieldSeen |= ofField;
            }
        }

        private int fieldOn(int x, int y) {
            return isOfSecond(division, x, y) ? second : first;
        }

        int shownOn(int x, int y) {
            if (isUnderCharges(charges, x, y)) {
                return chargeTincture;
            }
            return isUnderOrdinary(ordinary, x, y) ? ordinaryTincture : fieldOn(x, y);
        }

        int faultsShown() {
            return faultsWith(ordinaryTincture, chargeTincture);
        }

        int faultsWith(int onOrdinary, int onCharges) {
            int underCharges = fieldUnderCharges | setOf(isOrdinaryUnderCharges, onOrdinary);
            return (isClashing(onOrdinary, fieldUnderOrdinary) ? 1 : 0)
                    + (isClashing(onCharges, underCharges) ? 1 : 0);
        }

        int seenWith(int onOrdinary, int onCharges) {
            return Integer.bitCount(fieldSeen | setOf(isOrdinarySeen, onOrdinary)
                    | setOf(charges != 0, onCharges));
        }

        int bestTincture(boolean isOfCharges) {
            if (isOfCharges ? charges == 0 : ordinary == 0) {
                return NONE;
            }
            int found = NONE;
            int fewest = 0;
            int most = 0;
            for (int tincture = 0; tincture < TINCTURES; tincture++) {
                int onOrdinary = isOfCharges ? ordinaryTincture : tincture;
                int onCharges = isOfCharges ? tincture : chargeTincture;
                int wouldFault = faultsWith(onOrdinary, onCharges);
                int wouldSee = seenWith(onOrdinary, onCharges);
                if (found == NONE || wouldFault < fewest
                        || (wouldFault == fewest && wouldSee > most)) {
                    found = tincture;
                    fewest = wouldFault;
                    most = wouldSee;
                }
            }
            return found;
        }

        void sayWords() {
            words.say(nameOfDivision(division)).say(nameOfTincture(first));
            if (division != 0) {
                words.say(" and ").say(nameOfTincture(second));
            }
            if (ordinary != 0) {
                words.say(", a ").say(nameOfOrdinary(ordinary));
                words.say(" ").say(nameOfTincture(ordinaryTincture));
            }
            if (charges != 0) {
                words.say(", ").say(countOfCharges(charges, kind)).say(nameOfKind(kind));
                words.say(charges > 1 ? "s " : " ").say(nameOfTincture(chargeTincture));
            }
        }
    }

    private static final class Impaled extends Arms {
        final Arms left;
        final Arms right;

        Impaled(int number, Arms left, Arms right) {
            super(number, MADE_IMPALED);
            this.left = left;
            this.right = right;
        }

        int shownOn(int x, int y) {
            return (x < HALF ? left : right).picture.tinctureOn(shrunk(x), y);
        }

        int faultsShown() {
            return left.faults + right.faults;
        }

        void sayWords() {
            words.say("[").sayAll(left.words);
            words.say(" impaling ").sayAll(right.words).say("]");
        }
    }

    private static final class Quartered extends Arms {
        final Arms first;
        final Arms second;
        final Arms third;
        final Arms fourth;

        Quartered(int number, Arms first, Arms second, Arms third, Arms fourth) {
            super(number, MADE_QUARTERED);
            this.first = first;
            this.second = second;
            this.third = third;
            this.fourth = fourth;
        }

        int shownOn(int x, int y) {
            Arms above = x < HALF ? first : second;
            Arms below = x < HALF ? third : fourth;
            return (y < HALF ? above : below).picture.tinctureOn(shrunk(x), shrunk(y));
        }

        int faultsShown() {
            return first.faults + second.faults + third.faults + fourth.faults;
        }

        void sayWords() {
            words.say("[1 ").sayAll(first.words).say("; 2 ").sayAll(second.words);
            words.say("; 3 ").sayAll(third.words).say("; 4 ").sayAll(fourth.words).say("]");
        }
    }

    private static final class Overlaid extends Arms {
        final Arms large;
        final Arms small;

        Overlaid(int number, Arms large, Arms small) {
            super(number, MADE_OVER);
            this.large = large;
            this.small = small;
        }

        int shownOn(int x, int y) {
            if (isInner(x) && isInner(y)) {
                return small.picture.tinctureOn(2 * (x - 2), 2 * (y - 2));
            }
            return large.picture.tinctureOn(x, y);
        }

        static boolean isInner(int coordinate) {
            return coordinate >= 2 && coordinate <= 5;
        }

        int faultsShown() {
            return large.faults + small.faults;
        }

        void sayWords() {
            words.say("[").sayAll(large.words);
            words.say(", over all ").sayAll(small.words).say("]");
        }
    }

    private abstract static class Person {
        final int number;
        final int generation;
        final Picture picture = new Picture();

        Person(int number, int generation) {
            this.number = number;
            this.generation = generation;
        }

        final void redraw() {
            for (int y = 0; y < SIDE; y++) {
                for (int x = 0; x < SIDE; x++) {
                    picture.paint(x, y, borneOn(x, y));
                }
            }
        }

        abstract int borneOn(int x, int y);

        abstract boolean isChildOf(Person parent);
    }

    private static final class Founder extends Person {
        Arms borne;

        Founder(int number, Arms borne) {
            super(number, 0);
            this.borne = borne;
        }

        int borneOn(int x, int y) {
            return borne.picture.tinctureOn(x, y);
        }

        boolean isChildOf(Person parent) {
            return false;
        }
    }

    private static final class Born extends Person {
        final Person first;
        final Person other;
        final int rank;
        final boolean isQuartered;

        Born(int number, Person first, Person other, int rank, boolean isQuartered) {
            super(number, 1 + Math.max(first.generation, other.generation));
            this.first = first;
            this.other = other;
            this.rank = rank;
            this.isQuartered = isQuartered;
        }

        int borneOn(int x, int y) {
            return isMarked(rank, x, y) ? markOf(rank) : inherited(first, other, isQuartered, x, y);
        }

        boolean isChildOf(Person parent) {
            return first == parent || other == parent;
        }
    }
}
