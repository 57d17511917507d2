import java.util.ArrayList;
import java.util.List;
import java.util.NoSuchElementException;
import java.util.TreeSet;

/**
 * The document written a second time, in another way: ends of busy times instead of counts, lists instead of rows,
 * what pieces tell being worked out anew from what came to them. Each call refuses by the causes in their order.
 */
final class Model {
    private record Kind(int low, int high, int expansion, int colour) {
    }

    private static final class Vessel {
        Kind kind;
        int mass;
        int seeds;
        int stones;
        int born;
    }

    private static final class Band {
        int r = 5;
        int h = 10;
        int w;
        List<int[]> stack = new ArrayList<>();
    }

    private static final class Thing {
        List<Band> bands = new ArrayList<>();
        List<Kind> kinds = new ArrayList<>();
        char state = 'p';
        int heat = 1100;
        int freeAt;
        int holeUntil;
        int layers;
        int flaws;
        int strain;
        int outAt = -1;
        boolean first;
        boolean inSet;

        int low() {
            return kinds.stream().mapToInt(Kind::low).max().getAsInt();
        }

        int high() {
            return kinds.stream().mapToInt(Kind::high).min().getAsInt();
        }

        int mass() {
            return bands.stream().mapToInt(b -> b.r * b.h * b.w).sum();
        }

        int height() {
            return bands.stream().mapToInt(b -> b.h).sum();
        }

        int apart() {
            return kinds.stream().mapToInt(Kind::expansion).max().getAsInt()
                    - kinds.stream().mapToInt(Kind::expansion).min().getAsInt();
        }
    }

    private final List<Kind> kinds = new ArrayList<>();
    private final List<Vessel> vessels = new ArrayList<>();
    private final List<Thing> things = new ArrayList<>();
    private final int[] freeAt = new int[4];
    private final int[] paid = new int[4];
    private int clock;
    private int hour;
    private int drop = 40;
    private int sales;

    private static void arg(boolean fits) {
        if (!fits) {
            throw new IllegalArgumentException();
        }
    }

    private static void able(boolean fits) {
        if (!fits) {
            throw new UnsupportedOperationException();
        }
    }

    private static void room(boolean fits) {
        if (!fits) {
            throw new IllegalStateException();
        }
    }

    private static void there(boolean fits) {
        if (!fits) {
            throw new NoSuchElementException();
        }
    }

    private static <T> T at(List<T> list, int number) {
        if (number < 0 || number >= list.size()) {
            throw new IndexOutOfBoundsException();
        }
        return list.get(number);
    }

    private static boolean in(int number, int least, int most) {
        return least <= number && number <= most;
    }

    private static int letter(String letters, char letter) {
        arg(letters.indexOf(letter) >= 0);
        return letters.indexOf(letter);
    }

    private static boolean agreed(Kind a, Kind b) {
        return Math.min(a.high, b.high) - Math.max(a.low, b.low) > 99 && Math.abs(a.expansion - b.expansion) < 6;
    }

    public int glass(int low, int high, int expansion, int colour) {
        arg(in(low, 600, 1100) && in(high, low, 1100) && in(expansion, 50, 150) && in(colour, 0, 9));
        room(kinds.size() < 6);
        kinds.add(new Kind(low, high, expansion, colour));
        return kinds.size() - 1;
    }

    public boolean agree(int glass, int other) {
        return agreed(at(kinds, glass), at(kinds, other));
    }

    public int pot(int glass) {
        Kind kind = at(kinds, glass);
        room(vessels.size() < 4);
        Vessel made = new Vessel();
        made.kind = kind;
        made.born = hour;
        vessels.add(made);
        return vessels.size() - 1;
    }

    public int charge(int pot, int mass) {
        Vessel vessel = at(vessels, pot);
        arg(in(mass, 1, 500) && vessel.mass + mass <= 1000);
        vessel.mass += mass;
        vessel.seeds = 30;
        return vessel.mass;
    }

    public int change(int pot) {
        Vessel vessel = at(vessels, pot);
        int had = vessel.mass;
        vessel.mass = 0;
        vessel.born = hour;
        return had;
    }

    public int of(int pot, char what) {
        Vessel vessel = at(vessels, pot);
        int age = hour - vessel.born;
        return new int[] {vessel.mass, vessel.seeds, age / 50, age}[letter("msta", what)];
    }

    private void rest() {
        able(things.stream().noneMatch(t -> t.state == 'p'));
        room(freeAt[0] <= clock && freeAt[1] <= clock && freeAt[2] <= clock && freeAt[3] <= clock);
    }

    public int hours(int many) {
        arg(in(many, 1, 240));
        rest();
        return goBy(many)[0];
    }

    public int days(int many) {
        arg(in(many, 1, 60));
        rest();
        return goBy(many * 24)[1];
    }

    public int day() {
        return hour / 24;
    }

    private int[] goBy(int many) {
        int[] counts = new int[2];
        for (int i = 0; i < many; i++) {
            for (Vessel vessel : vessels) {
                vessel.seeds = vessel.mass == 0 ? vessel.seeds : Math.max(0, vessel.seeds - 2);
            }
            for (Thing thing : things) {
                counts[0] += thing.state == 'l' && comesOut(thing) ? 1 : 0;
            }
            hour++;
            for (Thing thing : things) {
                boolean due = thing.apart() >= 3 && (thing.state == 'd' || thing.state == 's')
                        && hour == (thing.outAt / 24 + 60 / thing.apart() + 1) * 24;
                thing.state = due ? 'x' : thing.state;
                counts[1] += due ? 1 : 0;
            }
        }
        return counts;
    }

    private boolean comesOut(Thing thing) {
        int wall = thing.bands.stream().mapToInt(b -> b.w).max().getAsInt();
        thing.strain += thing.heat > 450 ? drop * wall / 100 : 0;
        thing.heat -= drop;
        if (thing.heat > 100) {
            return false;
        }
        thing.outAt = hour;
        thing.state = thing.strain > 100 ? 'x' : 'd';
        thing.first = thing.strain <= 40 && thing.flaws == 0;
        return true;
    }

    public int pass(int seconds) {
        arg(in(seconds, 1, 600));
        int lost = 0;
        for (int i = 0; i < seconds; i++) {
            for (Thing thing : things) {
                if (thing.state != 'p') {
                    continue;
                }
                boolean thin = thing.bands.stream().anyMatch(b -> b.w < 20);
                thing.heat = thing.holeUntil > clock ? Math.min(thing.heat + 8, 1100) : thing.heat - (thin ? 3 : 2);
                if (thing.heat < thing.low()) {
                    thing.state = 'x';
                    lost++;
                }
            }
            clock++;
        }
        return lost;
    }

    public int time() {
        return clock;
    }

    public int busy(char role) {
        return Math.max(0, freeAt[letter("gsfb", role)] - clock);
    }

    public int pay(char role) {
        return paid[letter("gsfb", role)];
    }

    private boolean idle(char role) {
        return freeAt["gsfb".indexOf(role)] <= clock;
    }

    private void act(char role, int seconds, Thing thing) {
        freeAt["gsfb".indexOf(role)] = clock + seconds;
        paid["gsfb".indexOf(role)]++;
        thing.freeAt = clock + seconds;
    }

    private boolean hand(Thing thing, char role) {
        return thing.state == 'p' && thing.freeAt <= clock && idle(role);
    }

    private boolean work(Thing thing, char role) {
        return hand(thing, role) && in(thing.heat, thing.low(), thing.high());
    }

    public int gather(int pot, int mass) {
        Vessel vessel = at(vessels, pot);
        arg(in(mass, 10, 60));
        able(vessel.seeds <= 10 && vessel.mass >= mass && idle('g'));
        room(things.size() < 16);
        vessel.mass -= mass;
        Thing made = new Thing();
        Band band = new Band();
        band.w = mass;
        band.stack.add(new int[] {vessel.kind.colour, 0});
        made.bands.add(band);
        made.kinds.add(vessel.kind);
        made.flaws = (hour - vessel.born) / 50;
        things.add(made);
        act('g', 20, made);
        return things.size() - 1;
    }

    public int heat(int piece, int seconds) {
        Thing thing = at(things, piece);
        arg(in(seconds, 1, 60));
        able(hand(thing, 'b') && holes() > 0);
        act('b', 2, thing);
        thing.freeAt = clock + seconds;
        thing.holeUntil = clock + seconds;
        return holes();
    }

    private int holes() {
        return 2 - (int) things.stream().filter(t -> t.state == 'p' && t.holeUntil > clock).count();
    }

    private int shape(int piece, int ring, int by, char role, int seconds, int radius, int height) {
        Thing thing = at(things, piece);
        Band band = at(thing.bands, ring);
        arg(in(by, 1, 30));
        int r = band.r + radius * by;
        int h = band.h + height * by;
        able(work(thing, role) && in(r, 1, 60) && in(h, 2, 60));
        int w = radius != 0 ? band.w * band.r / r : band.w * band.h / h;
        able(in(w, 2, 99));
        band.r = r;
        band.h = h;
        band.w = w;
        act(role, seconds, thing);
        return w;
    }

    public int blow(int piece, int ring, int more) {
        return shape(piece, ring, more, 'f', 8, 1, 0);
    }

    public int swing(int piece, int ring, int more) {
        return shape(piece, ring, more, 's', 6, 0, 1);
    }

    public int neck(int piece, int ring, int less) {
        return shape(piece, ring, less, 'f', 10, -1, 0);
    }

    private static Band copy(Band band) {
        Band made = new Band();
        made.r = band.r;
        made.h = band.h;
        made.w = band.w;
        for (int[] layer : band.stack) {
            made.stack.add(layer.clone());
        }
        return made;
    }

    public int split(int piece, int ring) {
        Thing thing = at(things, piece);
        Band band = at(thing.bands, ring);
        able(work(thing, 's') && band.h > 3 && thing.bands.size() < 8);
        Band rest = copy(band);
        band.h = rest.h / 2;
        rest.h = rest.h - rest.h / 2;
        thing.bands.add(ring + 1, rest);
        act('s', 4, thing);
        return thing.bands.size();
    }

    public int shear(int piece) {
        Thing thing = at(things, piece);
        able(work(thing, 's') && thing.bands.size() > 1);
        Band lost = thing.bands.remove(thing.bands.size() - 1);
        act('s', 5, thing);
        return lost.r * lost.h * lost.w;
    }

    public int lay(int piece, int pot, int thickness) {
        Thing thing = at(things, piece);
        Vessel vessel = at(vessels, pot);
        arg(in(thickness, 1, 9));
        int mass = thickness * thing.bands.size();
        able(work(thing, 'g') && vessel.seeds <= 10 && vessel.mass >= mass);
        able(thing.kinds.stream().allMatch(k -> agreed(k, vessel.kind)));
        able(in(thing.heat, vessel.kind.low, vessel.kind.high) && thing.layers < 4);
        able(thing.bands.stream().allMatch(b -> b.w + thickness <= 99));
        vessel.mass -= mass;
        for (Band band : thing.bands) {
            band.w += thickness;
            band.stack.add(new int[] {vessel.kind.colour, thickness});
        }
        thing.kinds.add(vessel.kind);
        act('g', 15, thing);
        return ++thing.layers;
    }

    public int join(int piece, int other) {
        Thing one = at(things, piece);
        Thing two = at(things, other);
        arg(piece != other);
        able(work(one, 'f') && work(two, 's') && two.layers == 0);
        able(one.kinds.stream().allMatch(a -> two.kinds.stream().allMatch(b -> agreed(a, b))));
        able(in(one.heat, two.low(), two.high()) && one.bands.size() + two.bands.size() <= 8);
        for (Band band : two.bands) {
            one.bands.add(copy(band));
        }
        one.kinds.addAll(two.kinds);
        one.flaws += two.flaws;
        two.state = 'x';
        act('f', 12, one);
        act('s', 12, one);
        return one.bands.size();
    }

    public int crack(int piece) {
        Thing thing = at(things, piece);
        able(work(thing, 'b') && lehr() < 6);
        thing.state = 'l';
        act('b', 3, thing);
        return lehr();
    }

    public char state(int piece) {
        return at(things, piece).state;
    }

    public int heatOf(int piece) {
        Thing thing = at(things, piece);
        there(thing.state == 'p' || thing.state == 'l');
        return thing.heat;
    }

    public int rings(int piece) {
        return at(things, piece).bands.size();
    }

    public int ring(int piece, int ring, char what) {
        Band band = at(at(things, piece).bands, ring);
        return new int[] {band.r, band.h, band.w}[letter("rhw", what)];
    }

    public int mass(int piece) {
        return at(things, piece).mass();
    }

    public int height(int piece) {
        return at(things, piece).height();
    }

    public int layers(int piece) {
        return at(things, piece).layers;
    }

    public int flaws(int piece) {
        return at(things, piece).flaws;
    }

    public int low(int piece, boolean isHigh) {
        Thing thing = at(things, piece);
        return isHigh ? thing.high() : thing.low();
    }

    public int strain(int piece) {
        return at(things, piece).strain;
    }

    public boolean isFirst(int piece) {
        Thing thing = at(things, piece);
        there(thing.outAt >= 0);
        return thing.first;
    }

    public int drop(int degrees) {
        arg(in(degrees, 10, 200));
        int before = drop;
        drop = degrees;
        return before;
    }

    public int lehr() {
        return (int) things.stream().filter(t -> t.state == 'l').count();
    }

    public int cut(int piece, int ring, int depth) {
        Thing thing = at(things, piece);
        Band band = at(thing.bands, ring);
        arg(in(depth, 1, 9));
        int[] top = band.stack.get(band.stack.size() - 1);
        able(thing.state == 'd' && depth <= top[1]);
        top[1] -= depth;
        if (top[1] == 0) {
            band.stack.remove(band.stack.size() - 1);
        }
        return colour(piece, ring);
    }

    public int colour(int piece, int ring) {
        List<int[]> stack = at(at(things, piece).bands, ring).stack;
        return stack.get(stack.size() - 1)[0];
    }

    public int set(int count, int rings, int apart) {
        arg(in(count, 2, 6) && in(rings, 1, 8) && in(apart, 0, 99));
        List<Integer> fit = new ArrayList<>();
        for (int i = 0; i < things.size(); i++) {
            Thing thing = things.get(i);
            if (thing.state == 'd' && !thing.inSet && thing.bands.size() == rings) {
                fit.add(i);
            }
        }
        there(fit.size() >= count);
        // a choice is told as a text that sorts by heights, by masses, then by the numbers in their order
        TreeSet<String> told = new TreeSet<>();
        for (int choice = 0; choice < 1 << fit.size(); choice++) {
            if (Integer.bitCount(choice) == count) {
                told.add(tellChoice(fit, choice));
            }
        }
        String best = told.first();
        int farthest = Integer.parseInt(best.substring(0, 9));
        able(farthest <= apart);
        for (String number : best.substring(20).split(" ")) {
            things.get(Integer.parseInt(number)).inSet = true;
        }
        return farthest;
    }

    private String tellChoice(List<Integer> fit, int choice) {
        int least = Integer.MAX_VALUE;
        int most = 0;
        int mass = 0;
        StringBuilder numbers = new StringBuilder();
        for (int i = 0; i < fit.size(); i++) {
            if ((choice >> i & 1) == 1) {
                Thing thing = things.get(fit.get(i));
                least = Math.min(least, thing.height());
                most = Math.max(most, thing.height());
                mass += thing.mass();
                numbers.append(String.format("%02d ", fit.get(i)));
            }
        }
        return String.format("%09d %09d %s", most - least, mass, numbers);
    }

    public boolean isInSet(int piece) {
        return at(things, piece).inSet;
    }

    public int price(int piece) {
        Thing thing = at(things, piece);
        int price = (thing.mass() / 50 + thing.layers * 10) * (thing.first ? 2 : 1);
        return thing.inSet ? price * 3 / 2 : price;
    }

    public int sell(int piece) {
        Thing thing = at(things, piece);
        able(thing.state == 'd');
        thing.state = 's';
        sales += price(piece);
        return price(piece);
    }

    public int takings() {
        return sales;
    }

    public long checksum() {
        long sum = 7;
        for (Thing thing : things) {
            sum = ((sum * 31 + thing.state) * 31 + thing.mass()) * 31 + thing.strain;
        }
        return sum;
    }

    public float wholeShare() {
        there(!things.isEmpty());
        return (float) things.stream().filter(t -> t.state != 'x').count() / (float) things.size();
    }

    public double meanMass() {
        there(!things.isEmpty());
        return (double) things.stream().mapToInt(Thing::mass).sum() / (double) things.size();
    }

    public boolean isSound() {
        return true;
    }
}
