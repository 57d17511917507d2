import java.util.NoSuchElementException;

/** A house of glass: pots, a team, pieces on pipes, glory holes, a lehr, cuts, sets and trade. */
public final class Gatherhouse {
    private static final int MOST_GLASSES = 6;
    private static final int MOST_POTS = 4;
    private static final int MOST_PIECES = 16;
    private static final int MOST_RINGS = 8;
    private static final int MOST_LAYERS = 4;
    private static final int MOST_IN_LEHR = 6;
    private static final int GLORY_HOLES = 2;

    private static final int COOLEST_RANGE = 600;
    private static final int HOTTEST = 1100;
    private static final int COMMON_DEGREES = 100;
    private static final int AGREED_EXPANSIONS = 5;

    private static final int MOST_CHARGE = 500;
    private static final int FULL_POT = 1000;
    private static final int SEEDS_OF_CHARGE = 30;
    private static final int SEEDS_OF_CLEAR_POT = 10;
    private static final int HOURS_TO_BLEED = 50;

    private static final int THIN_WALL = 20;
    private static final int HOURS_A_DAY = 24;
    private static final int STRAINING_HEAT = 450;
    private static final int COLD = 100;
    private static final int STRAIN_OF_FIRST = 40;
    private static final int STRAIN_THAT_BREAKS = 100;
    private static final int APART_THAT_BREAKS = 3;
    private static final int DAYS_TO_BREAK = 60;

    private static final char ON_PIPE = 'p';
    private static final char IN_LEHR = 'l';
    private static final char DONE = 'd';
    private static final char SOLD = 's';
    private static final char NO_MORE = 'x';

    private final Glass[] glasses = new Glass[MOST_GLASSES];
    private int glassCount = 0;
    private final Pot[] pots = new Pot[MOST_POTS];
    private int potCount = 0;
    private final Piece[] pieces = new Piece[MOST_PIECES];
    private int pieceCount = 0;
    private final Role gatherer = new Role();
    private final Role servitor = new Role();
    private final Role gaffer = new Role();
    private final Role boy = new Role();
    private final SetSearch search = new SetSearch();
    private int secondsGone = 0;
    private int hoursGone = 0;
    private int dropAnHour = 40;
    private int sumOfSales = 0;
    private int brokenLater = 0;

    public Gatherhouse() {
    }

    // ---- glasses and pots ----

    public int glass(int low, int high, int expansion, int colour)
            throws IllegalArgumentException, IllegalStateException {
        checkRange(low, COOLEST_RANGE, HOTTEST);
        checkRange(high, low, HOTTEST);
        checkRange(expansion, 50, 150);
        checkRange(colour, 0, 9);
        if (glassCount < 0 || glassCount >= glasses.length) {
            throw new IllegalStateException("no more glasses");
        }
        glasses[glassCount] = new Glass(low, high, expansion, colour);
        glassCount++;
        return glassCount - 1;
    }

    public boolean agree(int glass, int other) throws IndexOutOfBoundsException {
        Glass one = findGlass(glass);
        Glass another = findGlass(other);
        return one.agreesWith(another);
    }

    public int pot(int glass) throws IndexOutOfBoundsException, IllegalStateException {
        Glass content = findGlass(glass);
        if (potCount < 0 || potCount >= pots.length) {
            throw new IllegalStateException("no more pots");
        }
        pots[potCount] = new Pot(content);
        potCount++;
        return potCount - 1;
    }

    public int charge(int pot, int mass) throws IndexOutOfBoundsException, IllegalArgumentException {
        Pot charged = findPot(pot);
        checkRange(mass, 1, MOST_CHARGE);
        checkRange(charged.mass + mass, 1, FULL_POT);
        charged.mass += mass;
        charged.seeds = SEEDS_OF_CHARGE;
        return charged.mass;
    }

    public int change(int pot) throws IndexOutOfBoundsException {
        Pot changed = findPot(pot);
        int had = changed.mass;
        changed.mass = 0;
        changed.stones = 0;
        changed.age = 0;
        return had;
    }

    public int of(int pot, char what) throws IndexOutOfBoundsException, IllegalArgumentException {
        Pot asked = findPot(pot);
        switch (what) {
            case 'm':
                return asked.mass;
            case 's':
                return asked.seeds;
            case 't':
                return asked.stones;
            case 'a':
                return asked.age;
            default:
                throw new IllegalArgumentException("no such letter");
        }
    }

    public int hours(int many)
            throws IllegalArgumentException, UnsupportedOperationException, IllegalStateException {
        checkRange(many, 1, 240);
        checkTeamRests();
        int cameOut = 0;
        for (int i = 0; i < many; i++) {
            cameOut += passHour();
        }
        return cameOut;
    }

    // ---- seconds and roles ----

    public int pass(int seconds) throws IllegalArgumentException {
        checkRange(seconds, 1, 600);
        int lost = 0;
        for (int i = 0; i < seconds; i++) {
            lost += passSecond();
        }
        return lost;
    }

    public int time() {
        return secondsGone;
    }

    public int busy(char role) throws IllegalArgumentException {
        return findRole(role).busy;
    }

    public int pay(char role) throws IllegalArgumentException {
        return findRole(role).paid;
    }

    // ---- work ----

    public int gather(int pot, int mass)
            throws IndexOutOfBoundsException, IllegalArgumentException,
            UnsupportedOperationException, IllegalStateException {
        Pot from = findPot(pot);
        checkRange(mass, 10, 60);
        if (!from.canGive(mass) || gatherer.isBusy()) {
            throw new UnsupportedOperationException("the pot cannot give it, or the role is busy");
        }
        if (pieceCount < 0 || pieceCount >= pieces.length) {
            throw new IllegalStateException("no more pieces");
        }
        from.mass -= mass;
        Piece made = new Piece(from.glass, mass, from.stones);
        pieces[pieceCount] = made;
        pieceCount++;
        takeFor(20, gatherer, made);
        return pieceCount - 1;
    }

    public int heat(int piece, int seconds)
            throws IndexOutOfBoundsException, IllegalArgumentException, UnsupportedOperationException {
        Piece heated = findPiece(piece);
        checkRange(seconds, 1, 60);
        checkAtHand(heated, boy);
        if (freeHoles() < 1) {
            throw new UnsupportedOperationException("no hole is free");
        }
        takeFor(2, boy, heated);
        heated.busy = seconds;
        heated.isInHole = true;
        return freeHoles();
    }

    public int blow(int piece, int ring, int more)
            throws IndexOutOfBoundsException, IllegalArgumentException, UnsupportedOperationException {
        Piece blown = findPiece(piece);
        Ring part = findRing(blown, ring);
        checkRange(more, 1, 30);
        checkWork(blown, gaffer);
        int radius = part.radius + more;
        reshape(part, radius, part.height, part.wallOver(part.radius, radius));
        takeFor(8, gaffer, blown);
        return part.wall;
    }

    public int swing(int piece, int ring, int more)
            throws IndexOutOfBoundsException, IllegalArgumentException, UnsupportedOperationException {
        Piece swung = findPiece(piece);
        Ring part = findRing(swung, ring);
        checkRange(more, 1, 30);
        checkWork(swung, servitor);
        int height = part.height + more;
        reshape(part, part.radius, height, part.wallOver(part.height, height));
        takeFor(6, servitor, swung);
        return part.wall;
    }

    public int neck(int piece, int ring, int less)
            throws IndexOutOfBoundsException, IllegalArgumentException, UnsupportedOperationException {
        Piece necked = findPiece(piece);
        Ring part = findRing(necked, ring);
        checkRange(less, 1, 30);
        checkWork(necked, gaffer);
        int radius = part.radius - less;
        reshape(part, radius, part.height, part.wallOver(part.radius, radius));
        takeFor(10, gaffer, necked);
        return part.wall;
    }

    public int split(int piece, int ring) throws IndexOutOfBoundsException, UnsupportedOperationException {
        Piece parted = findPiece(piece);
        Ring part = findRing(parted, ring);
        checkWork(parted, servitor);
        if (part.height < 4 || parted.ringCount >= MOST_RINGS) {
            throw new UnsupportedOperationException("the ring is too low, or there are too many");
        }
        Ring rest = part.copied();
        part.height = part.height / 2;
        rest.height -= part.height;
        parted.insertRing(ring + 1, rest);
        takeFor(4, servitor, parted);
        return parted.ringCount;
    }

    public int shear(int piece) throws IndexOutOfBoundsException, UnsupportedOperationException {
        Piece sheared = findPiece(piece);
        checkWork(sheared, servitor);
        if (sheared.ringCount < 2) {
            throw new UnsupportedOperationException("it has one ring");
        }
        int before = sheared.weight();
        sheared.removeLastRing();
        takeFor(5, servitor, sheared);
        return before - sheared.weight();
    }

    public int lay(int piece, int pot, int thickness)
            throws IndexOutOfBoundsException, IllegalArgumentException, UnsupportedOperationException {
        Piece covered = findPiece(piece);
        Pot from = findPot(pot);
        checkRange(thickness, 1, 9);
        checkWork(covered, gatherer);
        int taken = thickness * covered.ringCount;
        if (!from.canGive(taken) || !covered.agreesWith(from.glass) || !from.glass.isWorkedAt(covered.heat)) {
            throw new UnsupportedOperationException("the pot or its glass does not suit");
        }
        if (covered.layers >= MOST_LAYERS || covered.greatestWall() + thickness > Ring.MOST_WALL) {
            throw new UnsupportedOperationException("too many layers, or a wall would be too thick");
        }
        from.mass -= taken;
        covered.cover(from.glass, thickness);
        takeFor(15, gatherer, covered);
        return covered.layers;
    }

    public int join(int piece, int other)
            throws IndexOutOfBoundsException, IllegalArgumentException, UnsupportedOperationException {
        Piece first = findPiece(piece);
        Piece second = findPiece(other);
        if (first == second) {
            throw new IllegalArgumentException("both are the same");
        }
        checkWork(first, gaffer);
        checkWork(second, servitor);
        if (second.layers > 0 || !first.agreesWithAllOf(second) || !second.isWorkedAt(first.heat)) {
            throw new UnsupportedOperationException("the pieces do not suit each other");
        }
        if (first.ringCount + second.ringCount > MOST_RINGS) {
            throw new UnsupportedOperationException("too many rings");
        }
        first.takeOver(second);
        second.state = NO_MORE;
        takeFor(12, gaffer, first);
        takeFor(12, servitor, first);
        return first.ringCount;
    }

    public int crack(int piece) throws IndexOutOfBoundsException, UnsupportedOperationException {
        Piece cracked = findPiece(piece);
        checkWork(cracked, boy);
        if (countOf(IN_LEHR) >= MOST_IN_LEHR) {
            throw new UnsupportedOperationException("the lehr is full");
        }
        cracked.state = IN_LEHR;
        takeFor(3, boy, cracked);
        return countOf(IN_LEHR);
    }

    // ---- pieces ----

    public char state(int piece) throws IndexOutOfBoundsException {
        return findPiece(piece).state;
    }

    public int heatOf(int piece) throws IndexOutOfBoundsException, NoSuchElementException {
        Piece asked = findPiece(piece);
        if (asked.state != ON_PIPE && asked.state != IN_LEHR) {
            throw new NoSuchElementException("it has no heat");
        }
        return asked.heat;
    }

    public int rings(int piece) throws IndexOutOfBoundsException {
        return findPiece(piece).ringCount;
    }

    public int ring(int piece, int ring, char what) throws IndexOutOfBoundsException, IllegalArgumentException {
        Ring asked = findRing(findPiece(piece), ring);
        switch (what) {
            case 'r':
                return asked.radius;
            case 'h':
                return asked.height;
            case 'w':
                return asked.wall;
            default:
                throw new IllegalArgumentException("no such letter");
        }
    }

    public int mass(int piece) throws IndexOutOfBoundsException {
        return findPiece(piece).weight();
    }

    public int height(int piece) throws IndexOutOfBoundsException {
        return findPiece(piece).fullHeight();
    }

    public int layers(int piece) throws IndexOutOfBoundsException {
        return findPiece(piece).layers;
    }

    public int flaws(int piece) throws IndexOutOfBoundsException {
        return findPiece(piece).flaws;
    }

    public int low(int piece, boolean isHigh) throws IndexOutOfBoundsException {
        Piece asked = findPiece(piece);
        return isHigh ? asked.leastHigh : asked.greatestLow;
    }

    public int strain(int piece) throws IndexOutOfBoundsException {
        return findPiece(piece).strain;
    }

    public boolean isFirst(int piece) throws IndexOutOfBoundsException, NoSuchElementException {
        Piece asked = findPiece(piece);
        if (!asked.hasComeOut) {
            throw new NoSuchElementException("it did not come out");
        }
        return asked.isOfFirsts;
    }

    // ---- the lehr, days and cuts ----

    public int drop(int degrees) throws IllegalArgumentException {
        checkRange(degrees, 10, 200);
        int before = dropAnHour;
        dropAnHour = degrees;
        return before;
    }

    public int lehr() {
        return countOf(IN_LEHR);
    }

    public int days(int many)
            throws IllegalArgumentException, UnsupportedOperationException, IllegalStateException {
        checkRange(many, 1, 60);
        checkTeamRests();
        int before = brokenLater;
        for (int i = 0; i < many * HOURS_A_DAY; i++) {
            passHour();
        }
        return brokenLater - before;
    }

    public int day() {
        return hoursGone / HOURS_A_DAY;
    }

    public int cut(int piece, int ring, int depth)
            throws IndexOutOfBoundsException, IllegalArgumentException, UnsupportedOperationException {
        Piece carved = findPiece(piece);
        Ring part = findRing(carved, ring);
        checkRange(depth, 1, 9);
        if (carved.state != DONE || depth > part.leftAtSurface()) {
            throw new UnsupportedOperationException("it is not done, or the cut would be too deep");
        }
        part.carve(depth);
        return part.surfaceColour();
    }

    public int colour(int piece, int ring) throws IndexOutOfBoundsException {
        return findRing(findPiece(piece), ring).surfaceColour();
    }

    // ---- sets and trade ----

    public int set(int count, int rings, int apart)
            throws IllegalArgumentException, NoSuchElementException, UnsupportedOperationException {
        checkRange(count, 2, 6);
        checkRange(rings, 1, MOST_RINGS);
        checkRange(apart, 0, 99);
        search.begin();
        for (int i = 0; i < pieces.length; i++) {
            Piece candidate = pieces[i];
            if (candidate != null && candidate.isFreeForSet(rings)) {
                search.offer(i, candidate.fullHeight(), candidate.weight());
            }
        }
        if (search.size < count) {
            throw new NoSuchElementException("there are not so many");
        }
        search.choose(0, count, 0, 0, 0, 0);
        if (search.bestApart > apart) {
            throw new UnsupportedOperationException("they are farther apart");
        }
        for (int i = 0; i < pieces.length; i++) {
            Piece member = pieces[i];
            if (member != null && search.hasChosen(i)) {
                member.isOfSet = true;
            }
        }
        return search.bestApart;
    }

    public boolean isInSet(int piece) throws IndexOutOfBoundsException {
        return findPiece(piece).isOfSet;
    }

    public int price(int piece) throws IndexOutOfBoundsException {
        return findPiece(piece).worth();
    }

    public int sell(int piece) throws IndexOutOfBoundsException, UnsupportedOperationException {
        Piece sold = findPiece(piece);
        if (sold.state != DONE) {
            throw new UnsupportedOperationException("it is not done");
        }
        int brought = sold.worth();
        sold.state = SOLD;
        sumOfSales += brought;
        return brought;
    }

    public int takings() {
        return sumOfSales;
    }

    // ---- figures ----

    public long checksum() {
        long sum = 7;
        for (Piece piece : pieces) {
            if (piece != null) {
                sum = 31 * sum + piece.state;
                sum = 31 * sum + piece.weight();
                sum = 31 * sum + piece.strain;
            }
        }
        return sum;
    }

    public float wholeShare() throws NoSuchElementException {
        if (pieceCount <= 0) {
            throw new NoSuchElementException("there are no pieces");
        }
        int whole = pieceCount - countOf(NO_MORE);
        return (float) whole / (float) pieceCount;
    }

    public double meanMass() throws NoSuchElementException {
        if (pieceCount <= 0) {
            throw new NoSuchElementException("there are no pieces");
        }
        int sum = 0;
        for (Piece piece : pieces) {
            if (piece != null) {
                sum += piece.weight();
            }
        }
        return (double) sum / (double) pieceCount;
    }

    public boolean isSound() {
        for (Piece piece : pieces) {
            if (piece != null && !piece.isSoundItself()) {
                return false;
            }
        }
        return countOf(IN_LEHR) <= MOST_IN_LEHR;
    }

    // ---- what the face asks again and again ----

    private static void checkRange(int number, int least, int most) {
        if (number < least || number > most) {
            throw new IllegalArgumentException("a number is out of range");
        }
    }

    private Glass findGlass(int number) {
        Glass found = number < 0 || number >= glasses.length ? null : glasses[number];
        if (found == null) {
            throw new IndexOutOfBoundsException("no such glass");
        }
        return found;
    }

    private Pot findPot(int number) {
        Pot found = number < 0 || number >= pots.length ? null : pots[number];
        if (found == null) {
            throw new IndexOutOfBoundsException("no such pot");
        }
        return found;
    }

    private Piece findPiece(int number) {
        Piece found = number < 0 || number >= pieces.length ? null : pieces[number];
        if (found == null) {
            throw new IndexOutOfBoundsException("no such piece");
        }
        return found;
    }

    private static Ring findRing(Piece piece, int number) {
        Ring found = number < 0 || number >= piece.rings.length ? null : piece.rings[number];
        if (found == null) {
            throw new IndexOutOfBoundsException("no such ring");
        }
        return found;
    }

    private Role findRole(char letter) {
        switch (letter) {
            case 'g':
                return gatherer;
            case 's':
                return servitor;
            case 'f':
                return gaffer;
            case 'b':
                return boy;
            default:
                throw new IllegalArgumentException("no such role");
        }
    }

    private static void checkAtHand(Piece piece, Role role) {
        if (piece.state != ON_PIPE || piece.busy > 0 || role.isBusy()) {
            throw new UnsupportedOperationException("it is not on a pipe, or it or the role is busy");
        }
    }

    private static void checkWork(Piece piece, Role role) {
        checkAtHand(piece, role);
        if (!piece.isWorkedAt(piece.heat)) {
            throw new UnsupportedOperationException("it cannot be worked on");
        }
    }

    private void checkTeamRests() {
        if (countOf(ON_PIPE) > 0) {
            throw new UnsupportedOperationException("a piece is on a pipe");
        }
        if (gatherer.isBusy() || servitor.isBusy() || gaffer.isBusy() || boy.isBusy()) {
            throw new IllegalStateException("a role is busy");
        }
    }

    private static void takeFor(int seconds, Role role, Piece piece) {
        role.busy = seconds;
        role.paid++;
        piece.busy = seconds;
    }

    private static void reshape(Ring ring, int radius, int height, int wall) {
        if (!Ring.isWithinBounds(radius, height, wall)) {
            throw new UnsupportedOperationException("the ring would be out of bounds");
        }
        ring.radius = radius;
        ring.height = height;
        ring.wall = wall;
    }

    private int countOf(char state) {
        int count = 0;
        for (Piece piece : pieces) {
            if (piece != null && piece.state == state) {
                count++;
            }
        }
        return count;
    }

    private int freeHoles() {
        int free = GLORY_HOLES;
        for (Piece piece : pieces) {
            if (piece != null && piece.isInHole) {
                free--;
            }
        }
        return free;
    }

    // ---- time ----

    /** Answers how many pieces are no more by this second. */
    private int passSecond() {
        secondsGone++;
        gatherer.passSecond();
        servitor.passSecond();
        gaffer.passSecond();
        boy.passSecond();
        int lost = 0;
        for (Piece piece : pieces) {
            if (piece != null && piece.state == ON_PIPE) {
                piece.passSecond();
                lost += piece.state == NO_MORE ? 1 : 0;
            }
        }
        return lost;
    }

    /** Answers how many pieces came out of the lehr in this hour. */
    private int passHour() {
        // an hour is of the day in which it goes by, so the day is taken before the hour is counted
        int today = hoursGone / HOURS_A_DAY;
        hoursGone++;
        for (Pot pot : pots) {
            if (pot != null) {
                pot.passHour();
            }
        }
        int cameOut = 0;
        for (Piece piece : pieces) {
            if (piece != null && piece.state == IN_LEHR) {
                piece.coolInLehr(dropAnHour, today);
                cameOut += piece.hasComeOut ? 1 : 0;
            }
        }
        if (hoursGone % HOURS_A_DAY == 0) {
            endDay(today);
        }
        return cameOut;
    }

    private void endDay(int today) {
        for (Piece piece : pieces) {
            if (piece != null && piece.breaksAtEndOf(today)) {
                piece.state = NO_MORE;
                brokenLater++;
            }
        }
    }

    // ---- the things of the house ----

    private static final class Glass {
        private final int low;
        private final int high;
        private final int expansion;
        private final int colour;

        private Glass(int low, int high, int expansion, int colour) {
            this.low = low;
            this.high = high;
            this.expansion = expansion;
            this.colour = colour;
        }

        private boolean agreesWith(Glass other) {
            int common = Math.min(high, other.high) - Math.max(low, other.low);
            int apart = Math.abs(expansion - other.expansion);
            return common >= COMMON_DEGREES && apart <= AGREED_EXPANSIONS;
        }

        private boolean isWorkedAt(int degrees) {
            return degrees >= low && degrees <= high;
        }
    }

    private static final class Pot {
        private final Glass glass;
        private int mass = 0;
        private int seeds = 0;
        private int stones = 0;
        private int age = 0;

        private Pot(Glass glass) {
            this.glass = glass;
        }

        private boolean canGive(int wanted) {
            return seeds <= SEEDS_OF_CLEAR_POT && mass >= wanted;
        }

        private void passHour() {
            if (mass > 0) {
                seeds = Math.max(0, seeds - 2);
            }
            age++;
            if (age % HOURS_TO_BLEED == 0) {
                stones++;
            }
        }
    }

    private static final class Role {
        private int busy = 0;
        private int paid = 0;

        private boolean isBusy() {
            return busy > 0;
        }

        private void passSecond() {
            busy = Math.max(0, busy - 1);
        }
    }

    /** A ring with what lies over it: place 0 is the glass it was gathered with, layers lie above. */
    private static final class Ring {
        private static final int MOST_WALL = 99;

        private int radius;
        private int height;
        private int wall;
        private final int[] colours = new int[MOST_LAYERS + 1];
        private final int[] left = new int[MOST_LAYERS + 1];
        private int surface = 0;

        private Ring(int radius, int height, int wall) {
            this.radius = radius;
            this.height = height;
            this.wall = wall;
        }

        private Ring copied() {
            Ring copy = new Ring(radius, height, wall);
            for (int i = 0; i < colours.length && i < copy.colours.length; i++) {
                copy.colours[i] = colours[i];
            }
            for (int i = 0; i < left.length && i < copy.left.length; i++) {
                copy.left[i] = left[i];
            }
            copy.surface = surface;
            return copy;
        }

        private static boolean isWithinBounds(int radius, int height, int wall) {
            return radius >= 1 && radius <= 60
                    && height >= 2 && height <= 60
                    && wall >= 2 && wall <= MOST_WALL;
        }

        /** The wall as a measure goes from old to now; 0, which is out of bounds, where now is none. */
        private int wallOver(int old, int now) {
            return now <= 0 ? 0 : wall * old / now;
        }

        private void dye(int colour) {
            colours[0] = colour;
        }

        private void cover(int colour, int thickness) {
            wall += thickness;
            int above = surface + 1;
            if (above > 0 && above < colours.length && above < left.length) {
                colours[above] = colour;
                left[above] = thickness;
                surface = above;
            }
        }

        private int surfaceColour() {
            return surface < 0 || surface >= colours.length ? 0 : colours[surface];
        }

        /** What can still be cut at the surface; none of the glass that the ring was gathered with. */
        private int leftAtSurface() {
            return surface < 1 || surface >= left.length ? 0 : left[surface];
        }

        private void carve(int depth) {
            if (surface >= 1 && surface < left.length) {
                left[surface] -= depth;
                if (left[surface] == 0) {
                    surface--;
                }
            }
        }

        private boolean isCutTooDeep() {
            for (int rest : left) {
                if (rest < 0) {
                    return true;
                }
            }
            return false;
        }
    }

    private static final class Piece {
        private final Ring[] rings = new Ring[MOST_RINGS];
        private int ringCount = 0;
        private final Glass[] glasses = new Glass[MOST_GLASSES];
        private int greatestLow = COOLEST_RANGE;
        private int leastHigh = HOTTEST;
        private char state = ON_PIPE;
        private int heat = HOTTEST;
        private int busy = 0;
        private boolean isInHole = false;
        private int layers = 0;
        private int flaws;
        private int strain = 0;
        private boolean hasComeOut = false;
        private boolean isOfFirsts = false;
        private int dayOut = 0;
        private boolean isOfSet = false;

        private Piece(Glass glass, int wall, int flaws) {
            Ring only = new Ring(5, 10, wall);
            only.dye(glass.colour);
            insertRing(0, only);
            addGlass(glass);
            this.flaws = flaws;
        }

        private void insertRing(int place, Ring ring) {
            if (place < 0 || place >= rings.length) {
                return;
            }
            for (int i = rings.length - 1; i > place; i--) {
                rings[i] = rings[i - 1];
            }
            rings[place] = ring;
            ringCount++;
        }

        private void removeLastRing() {
            int last = ringCount - 1;
            if (last >= 0 && last < rings.length) {
                rings[last] = null;
                ringCount = last;
            }
        }

        private void addGlass(Glass glass) {
            for (int i = 0; i < glasses.length; i++) {
                if (glasses[i] == glass) {
                    return;
                }
                if (glasses[i] == null) {
                    glasses[i] = glass;
                    greatestLow = Math.max(greatestLow, glass.low);
                    leastHigh = Math.min(leastHigh, glass.high);
                    return;
                }
            }
        }

        private boolean agreesWith(Glass glass) {
            for (Glass own : glasses) {
                if (own != null && !own.agreesWith(glass)) {
                    return false;
                }
            }
            return true;
        }

        private boolean agreesWithAllOf(Piece other) {
            for (Glass glass : other.glasses) {
                if (glass != null && !agreesWith(glass)) {
                    return false;
                }
            }
            return true;
        }

        private boolean isWorkedAt(int degrees) {
            return degrees >= greatestLow && degrees <= leastHigh;
        }

        private void cover(Glass glass, int thickness) {
            for (Ring ring : rings) {
                if (ring != null) {
                    ring.cover(glass.colour, thickness);
                }
            }
            addGlass(glass);
            layers++;
        }

        /** Rings are copied, as those of the other piece are still told as they were. */
        private void takeOver(Piece other) {
            for (Ring ring : other.rings) {
                if (ring != null) {
                    insertRing(ringCount, ring.copied());
                }
            }
            for (Glass glass : other.glasses) {
                if (glass != null) {
                    addGlass(glass);
                }
            }
            flaws += other.flaws;
        }

        private int weight() {
            int sum = 0;
            for (Ring ring : rings) {
                if (ring != null) {
                    sum += ring.radius * ring.height * ring.wall;
                }
            }
            return sum;
        }

        private int fullHeight() {
            int sum = 0;
            for (Ring ring : rings) {
                if (ring != null) {
                    sum += ring.height;
                }
            }
            return sum;
        }

        private int greatestWall() {
            int greatest = 0;
            for (Ring ring : rings) {
                if (ring != null) {
                    greatest = Math.max(greatest, ring.wall);
                }
            }
            return greatest;
        }

        private boolean hasThinWall() {
            for (Ring ring : rings) {
                if (ring != null && ring.wall < THIN_WALL) {
                    return true;
                }
            }
            return false;
        }

        private void passSecond() {
            if (isInHole) {
                heat = Math.min(HOTTEST, heat + 8);
            } else {
                heat -= hasThinWall() ? 3 : 2;
            }
            busy = Math.max(0, busy - 1);
            isInHole = isInHole && busy > 0;
            if (heat < greatestLow) {
                state = NO_MORE;
            }
        }

        private void coolInLehr(int drop, int today) {
            if (heat > STRAINING_HEAT) {
                strain += drop * greatestWall() / 100;
            }
            heat -= drop;
            if (heat <= COLD) {
                hasComeOut = true;
                dayOut = today;
                isOfFirsts = strain <= STRAIN_OF_FIRST && flaws == 0;
                state = strain > STRAIN_THAT_BREAKS ? NO_MORE : DONE;
            }
        }

        private boolean breaksAtEndOf(int today) {
            int apart = expansionsApart();
            return (state == DONE || state == SOLD)
                    && apart >= APART_THAT_BREAKS
                    && today - dayOut >= DAYS_TO_BREAK / apart;
        }

        private int expansionsApart() {
            int least = Integer.MAX_VALUE;
            int most = 0;
            for (Glass glass : glasses) {
                if (glass != null) {
                    least = Math.min(least, glass.expansion);
                    most = Math.max(most, glass.expansion);
                }
            }
            return Math.max(0, most - least);
        }

        private boolean isFreeForSet(int wantedRings) {
            return state == DONE && !isOfSet && ringCount == wantedRings;
        }

        private int worth() {
            int worth = weight() / 50 + 10 * layers;
            if (isOfFirsts) {
                worth *= 2;
            }
            if (isOfSet) {
                worth += worth / 2;
            }
            return worth;
        }

        private boolean isSoundItself() {
            for (Ring ring : rings) {
                if (ring == null) {
                    continue;
                }
                boolean isBounded = Ring.isWithinBounds(ring.radius, ring.height, ring.wall);
                if (ring.isCutTooDeep() || (state == ON_PIPE && !isBounded)) {
                    return false;
                }
            }
            return state != ON_PIPE || heat >= greatestLow;
        }
    }

    /** Looks through all choices of candidates, lower numbers first, for the one that suits a set best. */
    private static final class SetSearch {
        private final int[] numbers = new int[MOST_PIECES];
        private final int[] heights = new int[MOST_PIECES];
        private final int[] masses = new int[MOST_PIECES];
        private int size = 0;
        private int bestApart = 0;
        private int bestMass = 0;
        private int bestChoice = 0;

        private void begin() {
            size = 0;
            bestApart = Integer.MAX_VALUE;
            bestMass = Integer.MAX_VALUE;
            bestChoice = 0;
        }

        private void offer(int number, int height, int mass) {
            if (size < numbers.length && size < heights.length && size < masses.length) {
                numbers[size] = number;
                heights[size] = height;
                masses[size] = mass;
                size++;
            }
        }

        private boolean hasChosen(int number) {
            return (bestChoice & (1 << number)) != 0;
        }

        /** Adds so many more, at most six, of the candidates from a place on to a choice of pieces. */
        private void choose(int from, int more, int choice, int least, int most, int mass) {
            if (more <= 0) {
                keepIfBetter(choice, most - least, mass);
                return;
            }
            for (int i = Math.max(0, from); i < size; i++) {
                if (i >= numbers.length || i >= heights.length || i >= masses.length) {
                    return;
                }
                int lower = choice == 0 ? heights[i] : Math.min(least, heights[i]);
                int upper = choice == 0 ? heights[i] : Math.max(most, heights[i]);
                // a choice that is too far apart already only gets farther
                if (upper - lower <= bestApart) {
                    choose(i + 1, more - 1, choice | 1 << numbers[i], lower, upper, mass + masses[i]);
                }
            }
        }

        private void keepIfBetter(int choice, int apart, int mass) {
            // of like choices the first one found stays: its numbers are the lower ones
            if (apart < bestApart || (apart == bestApart && mass < bestMass)) {
                bestApart = apart;
                bestMass = mass;
                bestChoice = choice;
            }
        }
    }
}
