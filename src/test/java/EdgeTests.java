import java.math.BigInteger;

/** Sentences of the document that name an edge, each with what is just within it and just beyond. */
final class EdgeTests {
    private EdgeTests() {
    }

    static void run() {
        Check.test("6, 8: a pot bleeds each 50 hours of its own age", EdgeTests::bleedsEachFiftyHours);
        Check.test("8: seeds go down to 0 and not below, in pots with mass alone", EdgeTests::seedsGoDownToNone);
        Check.test("13, 20: as much as the pot has, and 1 more", EdgeTests::asMuchAsThePotHas);
        Check.test("13, 20: 10 seeds are clear, 12 are not", EdgeTests::tenSeedsAreClear);
        Check.test("9: at the greatest low, and 1 below it", EdgeTests::oneBelowLow);
        Check.test("9: a wall of 20, and of 19", EdgeTests::wallBelow20);
        Check.test("9, 14: at most 1100 in a hole", EdgeTests::atMost1100);
        Check.test("20: 100 degrees in common and 99, expansions 5 apart and 6", EdgeTests::layAgrees);
        Check.test("20: the heat at the ends of the layer's range, and 1 beyond", EdgeTests::layHeat);
        Check.test("20: a wall of 99, and of 100", EdgeTests::layWall);
        Check.test("21: 100 degrees in common and 99, expansions 5 apart and 6", EdgeTests::joinAgrees);
        Check.test("21: the first one's heat at the ends of the other's range, and 1 beyond", EdgeTests::joinHeat);
        Check.test("21: eight rings together, and nine", EdgeTests::joinRings);
        Check.test("21: four layers on the first one, none on the other", EdgeTests::joinLayers);
        Check.test("15 to 22: work at the ends of all glasses' ranges, and 1 beyond", EdgeTests::rangeOfAllGlasses);
        Check.test("36: days to the break are told by all glasses, be their layers cut", EdgeTests::cutLayersBreak);
        Check.test("38: all of a layer, and 1 more", EdgeTests::cutAllOfALayer);
        Check.test("38: a layer is as thick as it was laid, the wall being blown", EdgeTests::layerStaysThick);
        Check.test("40: as far apart as told, and 1 farther", EdgeTests::setAsFarApart);
        Check.test("40: 99 apart, and 100", EdgeTests::setApart99);
        Check.test("40: as many as there are, and 1 more", EdgeTests::setOfAll);
        Check.test("40: pieces that are no more are in no set", EdgeTests::setOfWhole);
        Check.test("42: a mass divided by 50 and a half are cut", EdgeTests::pricesAreCut);
        Check.test("45: a sum over sixteen pieces wraps around", EdgeTests::checksumWraps);
        Check.test("46, 47: shares and means of one, of sixteen and of none left", EdgeTests::sharesAndMeans);
    }

    private static void bleedsEachFiftyHours() {
        Gatherhouse house = new Gatherhouse();
        house.glass(600, 1100, 100, 0);
        house.hours(20);
        house.pot(0);
        house.charge(0, 100);
        for (int bled = 1; bled <= 3; bled++) {
            house.hours(49);
            Check.same(house.of(0, 't'), bled - 1);
            Check.same(house.of(0, 'a'), 50 * bled - 1);
            house.hours(1);
            Check.same(house.of(0, 't'), bled);
        }
        house.hours(49);
        house.change(0);
        house.hours(1);
        Check.same(house.of(0, 't'), 0);
        house.hours(48);
        Check.same(house.of(0, 't'), 0);
        house.hours(1);
        Check.same(house.of(0, 't'), 1);
    }

    private static void seedsGoDownToNone() {
        Gatherhouse house = new Gatherhouse();
        house.glass(600, 1100, 100, 0);
        house.pot(0);
        house.pot(0);
        house.charge(0, 1);
        house.charge(1, 1);
        house.change(1);
        for (int gone = 1; gone <= 17; gone++) {
            house.hours(1);
            Check.same(house.of(0, 's'), Math.max(0, 30 - 2 * gone));
            Check.same(house.of(1, 's'), 30);
        }
    }

    private static void asMuchAsThePotHas() {
        Gatherhouse house = Houses.open();
        house.pot(0);
        house.charge(1, 47);
        house.hours(10);
        Check.unsupported(house, () -> house.gather(1, 48));
        Check.same(house.gather(1, 47), 0);
        Check.same(house.of(1, 'm'), 0);
        house.pass(20);
        Check.unsupported(house, () -> house.gather(1, 10));
        Check.unsupported(house, () -> house.lay(0, 1, 1));
        Gatherhouse other = Houses.open();
        other.pot(0);
        other.charge(1, 17);
        other.hours(10);
        Houses.ready(other, 0, 40);
        other.split(0, 0);
        other.pass(4);
        Check.unsupported(other, () -> other.lay(0, 1, 9));
        Check.same(other.lay(0, 1, 8), 1);
        Check.same(other.of(1, 'm'), 1);
        other.pass(15);
        Check.unsupported(other, () -> other.lay(0, 1, 1));
    }

    private static void tenSeedsAreClear() {
        Gatherhouse house = Houses.open();
        house.pot(0);
        house.charge(1, 100);
        house.hours(9);
        Check.same(house.of(1, 's'), 12);
        Check.unsupported(house, () -> house.gather(1, 10));
        Houses.ready(house, 0, 40);
        Check.unsupported(house, () -> house.lay(0, 1, 1));
        Houses.crack(house, 0);
        house.hours(1);
        Check.same(house.of(1, 's'), 10);
        Check.same(Houses.ready(house, 1, 10), 1);
        Check.same(house.lay(1, 1, 1), 1);
    }

    private static void oneBelowLow() {
        Gatherhouse at = Houses.of(1038, 1100, 100);
        at.gather(0, 20);
        Check.same(at.pass(31), 0);
        Check.same(at.heatOf(0), 1038);
        Check.same(at.state(0), 'p');
        Gatherhouse below = Houses.of(1039, 1100, 100);
        below.gather(0, 20);
        Check.same(below.pass(30), 0);
        Check.same(below.heatOf(0), 1040);
        Check.same(below.pass(1), 1);
        Check.same(below.state(0), 'x');
        Check.same(below.pass(1), 0);
    }

    private static void wallBelow20() {
        Gatherhouse house = Houses.open();
        house.gather(0, 20);
        house.pass(20);
        house.gather(0, 19);
        house.pass(20);
        Check.same(house.heatOf(0), 1020);
        Check.same(house.heatOf(1), 1040);
        house.lay(1, 0, 1);
        house.pass(1);
        Check.same(house.heatOf(1), 1038);
        house.split(0, 0);
        house.pass(1);
        Check.same(house.heatOf(0), 1016);
        house.pass(3);
        house.swing(0, 1, 1);
        Check.same(house.ring(0, 1, 'w'), 16);
        house.pass(1);
        Check.same(house.heatOf(0), 1007);
    }

    private static void atMost1100() {
        Gatherhouse house = Houses.open();
        Houses.ready(house, 0, 20);
        house.heat(0, 7);
        house.pass(4);
        Check.same(house.heatOf(0), 1092);
        house.pass(1);
        Check.same(house.heatOf(0), 1100);
        house.pass(1);
        Check.same(house.heatOf(0), 1100);
        Gatherhouse capped = Houses.open();
        Houses.ready(capped, 0, 20);
        capped.pass(1);
        capped.heat(0, 6);
        capped.pass(5);
        Check.same(capped.heatOf(0), 1098);
        capped.pass(1);
        Check.same(capped.heatOf(0), 1100);
    }

    /** A house of the glass 600 to 1100 of the expansion 100 in pot 0, and of others in the next ones. */
    private static Gatherhouse with(int[]... others) {
        Gatherhouse house = new Gatherhouse();
        house.glass(600, 1100, 100, 0);
        for (int[] other : others) {
            house.glass(other[0], other[1], other[2], 1);
        }
        for (int i = 0; i <= others.length; i++) {
            house.pot(i);
            house.charge(i, 500);
        }
        house.hours(10);
        return house;
    }

    private static void layAgrees() {
        Gatherhouse house = with(new int[] {990, 1090, 100}, new int[] {990, 1089, 100}, new int[] {600, 1100, 105});
        Houses.ready(house, 0, 40);
        Check.unsupported(house, () -> house.lay(0, 2, 1));
        Check.same(house.lay(0, 1, 1), 1);
        house.pass(15);
        Check.same(house.lay(0, 3, 1), 2);
        Gatherhouse apart = with(new int[] {600, 1100, 106}, new int[] {600, 1100, 94}, new int[] {600, 1100, 95});
        Houses.ready(apart, 0, 40);
        Check.unsupported(apart, () -> apart.lay(0, 1, 1));
        Check.unsupported(apart, () -> apart.lay(0, 2, 1));
        Check.same(apart.lay(0, 3, 1), 1);
        Gatherhouse third = with(new int[] {600, 1100, 103}, new int[] {600, 1100, 98}, new int[] {600, 1100, 97});
        Houses.ready(third, 0, 40);
        third.lay(0, 1, 1);
        third.pass(15);
        Check.unsupported(third, () -> third.lay(0, 3, 1));
        Check.same(third.lay(0, 2, 1), 2);
        layAgreesWithAll();
    }

    private static void layAgreesWithAll() {
        Gatherhouse house = with(new int[] {900, 1100, 100}, new int[] {700, 1000, 100}, new int[] {700, 999, 100});
        Houses.ready(house, 0, 40);
        house.lay(0, 1, 1);
        house.pass(35);
        Check.same(house.heatOf(0), 990);
        Check.unsupported(house, () -> house.lay(0, 3, 1));
        Check.same(house.lay(0, 2, 1), 2);
    }

    private static void layHeat() {
        Gatherhouse low = with(new int[] {960, 1100, 100}, new int[] {961, 1100, 100});
        Houses.ready(low, 0, 40);
        low.pass(50);
        Check.same(low.heatOf(0), 960);
        Check.unsupported(low, () -> low.lay(0, 2, 1));
        Check.same(low.lay(0, 1, 1), 1);
        Check.same(low.pass(1), 1);
        Gatherhouse high = with(new int[] {700, 960, 100}, new int[] {700, 959, 100});
        Houses.ready(high, 0, 40);
        high.pass(50);
        Check.unsupported(high, () -> high.lay(0, 2, 1));
        Check.same(high.lay(0, 1, 1), 1);
    }

    private static void layWall() {
        for (int thickness = 1; thickness <= 9; thickness++) {
            Gatherhouse house = Houses.open();
            Houses.ready(house, 0, 18);
            house.neck(0, 0, 4);
            house.pass(10);
            Check.same(house.ring(0, 0, 'w'), 90);
            Check.same(house.lay(0, 0, thickness), 1);
            house.pass(15);
            int over = 10 - thickness;
            Check.unsupported(house, () -> house.lay(0, 0, over));
            if (over > 1) {
                Check.same(house.lay(0, 0, over - 1), 2);
            }
        }
    }

    private static void joinAgrees() {
        Gatherhouse house = with(new int[] {850, 950, 105}, new int[] {850, 949, 100}, new int[] {700, 1100, 106});
        for (int i = 0; i < 4; i++) {
            Houses.ready(house, i, 40);
        }
        house.pass(36);
        Check.same(house.heatOf(0), 868);
        Check.same(house.heatOf(2), 948);
        Check.unsupported(house, () -> house.join(0, 2));
        Check.unsupported(house, () -> house.join(2, 0));
        Check.unsupported(house, () -> house.join(0, 3));
        Check.unsupported(house, () -> house.join(3, 0));
        Check.same(house.join(0, 1), 2);
        joinAgreesWithAll();
    }

    /** The third glass agrees with the first one of the piece and not with the second one. */
    private static void joinAgreesWithAll() {
        for (int expansion : new int[] {97, 98}) {
            Gatherhouse house = with(new int[] {600, 1100, 103}, new int[] {600, 1100, expansion});
            for (int i = 0; i < 3; i++) {
                Houses.ready(house, i, 40);
            }
            house.join(0, 1);
            house.pass(12);
            if (expansion == 97) {
                Check.unsupported(house, () -> house.join(0, 2));
                Check.unsupported(house, () -> house.join(2, 0));
            } else {
                Check.same(house.join(2, 0), 3);
            }
        }
    }

    private static void joinHeat() {
        int[][] ranges = {{930, 1100}, {931, 1100}, {700, 930}, {700, 929}};
        for (int i = 0; i < ranges.length; i++) {
            Gatherhouse house = with(new int[] {ranges[i][0], ranges[i][1], 100});
            int first = Houses.ready(house, 0, 40);
            house.pass(45);
            int other = Houses.ready(house, 1, 40);
            Check.same(house.heatOf(first), 930);
            if (i >= 2) {
                joinsWhenCool(house, first, other, ranges[i][1]);
            } else if (i == 0) {
                Check.same(house.join(first, other), 2);
                Check.same(house.heatOf(first), 930);
                Check.same(house.pass(1), 1);
            } else {
                Check.unsupported(house, () -> house.join(first, other));
            }
        }
    }

    /** The other one cools below its high while the first one is heated to 930. */
    private static void joinsWhenCool(Gatherhouse house, int first, int other, int high) {
        house.pass(60);
        Check.same(house.heatOf(first), 810);
        house.heat(first, 15);
        house.pass(15);
        Check.same(house.heatOf(first), 930);
        Check.same(house.heatOf(other), 910);
        if (high == 930) {
            Check.same(house.join(first, other), 2);
        } else {
            Check.unsupported(house, () -> house.join(first, other));
            house.pass(1);
            Check.same(house.join(first, other), 2);
        }
    }

    private static void joinRings() {
        for (int other = 1; other <= 3; other++) {
            Gatherhouse house = Houses.open();
            Houses.ready(house, 0, 60);
            house.swing(0, 0, 30);
            house.pass(6);
            for (int ring : new int[] {0, 0, 2, 0, 2}) {
                house.split(0, ring);
                house.pass(4);
            }
            Check.same(house.rings(0), 6);
            Houses.ready(house, 0, 40);
            for (int made = 1; made < other; made++) {
                house.split(1, 0);
                house.pass(4);
            }
            if (other <= 2) {
                Check.same(house.join(0, 1), 6 + other);
            } else {
                Check.unsupported(house, () -> house.join(0, 1));
                Check.unsupported(house, () -> house.join(1, 0));
            }
        }
    }

    private static void joinLayers() {
        Gatherhouse house = Houses.open();
        Houses.ready(house, 0, 40);
        for (int i = 1; i <= 4; i++) {
            Check.same(house.lay(0, 0, 1), i);
            house.pass(15);
        }
        Houses.ready(house, 0, 40);
        Check.unsupported(house, () -> house.join(1, 0));
        Check.same(house.join(0, 1), 2);
        house.pass(12);
        Check.same(house.layers(0), 4);
        Check.unsupported(house, () -> house.lay(0, 0, 1));
    }

    /** The layer's range is the narrower one: its high is the heat after 14 seconds in a hole, or 1 less. */
    private static void rangeOfAllGlasses() {
        for (int high = 1061; high <= 1062; high++) {
            Gatherhouse house = with(new int[] {900, high, 100});
            Houses.ready(house, 0, 40);
            house.lay(0, 1, 1);
            house.pass(15);
            house.pass(40);
            Check.same(house.heatOf(0), 950);
            Check.same(house.low(0, false), 900);
            Check.same(house.low(0, true), high);
            house.heat(0, 14);
            house.pass(14);
            Check.same(house.heatOf(0), 1062);
            if (high == 1062) {
                Check.same(house.blow(0, 0, 1), 34);
            } else {
                Check.unsupported(house, () -> house.blow(0, 0, 1));
                Check.unsupported(house, () -> house.crack(0));
                house.pass(1);
                Check.same(house.crack(0), 1);
            }
        }
        Gatherhouse cold = with(new int[] {950, 1100, 100});
        Houses.ready(cold, 0, 40);
        cold.lay(0, 1, 1);
        cold.pass(55);
        Check.same(cold.heatOf(0), 950);
        Check.same(cold.blow(0, 0, 1), 34);
        Check.same(cold.pass(1), 1);
    }

    private static void cutLayersBreak() {
        Gatherhouse house = with(new int[] {650, 1050, 103});
        Houses.thinOnPipe(house, 0);
        house.lay(0, 1, 2);
        house.pass(15);
        Houses.crack(house, 0);
        house.drop(10);
        Check.same(house.hours(94), 1);
        Check.same(house.day(), 4);
        Check.same(house.cut(0, 0, 2), 0);
        Check.same(house.low(0, false), 650);
        Check.same(house.low(0, true), 1050);
        Check.same(house.days(20), 0);
        Check.same(house.hours(15), 0);
        Check.same(house.state(0), 'd');
        Check.same(house.days(1), 1);
        Check.same(house.state(0), 'x');
    }

    /** Done, of the glass 0, with a layer of the colour 1 of this thickness. */
    private static Gatherhouse layered(int thickness) {
        Gatherhouse house = with(new int[] {600, 1100, 100});
        Houses.thinOnPipe(house, 0);
        house.lay(0, 1, thickness);
        house.pass(15);
        Houses.annealed(house, 0);
        Check.same(house.state(0), 'd');
        return house;
    }

    private static void cutAllOfALayer() {
        for (int thickness = 1; thickness <= 9; thickness++) {
            int all = thickness;
            Gatherhouse house = layered(all);
            if (all < 9) {
                Check.unsupported(house, () -> house.cut(0, 0, all + 1));
            }
            Check.same(house.colour(0, 0), 1);
            if (all > 1) {
                Check.same(house.cut(0, 0, all - 1), 1);
                Check.unsupported(house, () -> house.cut(0, 0, 2));
                Check.same(house.cut(0, 0, 1), 0);
            } else {
                Check.same(house.cut(0, 0, 1), 0);
            }
            Check.unsupported(house, () -> house.cut(0, 0, 1));
            Gatherhouse atOnce = layered(all);
            Check.same(atOnce.cut(0, 0, all), 0);
            Check.same(atOnce.isSound(), true);
        }
    }

    private static void layerStaysThick() {
        Gatherhouse house = with(new int[] {600, 1100, 100});
        Houses.ready(house, 0, 10);
        house.lay(0, 1, 9);
        house.pass(15);
        house.blow(0, 0, 30);
        house.pass(8);
        Check.same(house.ring(0, 0, 'w'), 2);
        Houses.annealed(house, 0);
        Check.same(house.isFirst(0), true);
        Check.same(house.cut(0, 0, 8), 1);
        Check.unsupported(house, () -> house.cut(0, 0, 2));
        Check.same(house.cut(0, 0, 1), 0);
        Check.same(house.ring(0, 0, 'w'), 2);
    }

    private static void setAsFarApart() {
        for (int apart = 0; apart <= 5; apart++) {
            Gatherhouse house = Houses.open();
            Houses.thin(house, 0);
            Houses.thin(house, apart);
            int told = apart;
            if (apart > 0) {
                Check.unsupported(house, () -> house.set(2, 1, told - 1));
            }
            Check.same(house.set(2, 1, told), told);
            Check.same(house.isInSet(0), true);
            Check.same(house.isInSet(1), true);
        }
    }

    /** Two rings of the heights 60 and 60, and two of 21 or of 20 together. */
    private static void setApart99() {
        for (int lower = 20; lower <= 21; lower++) {
            Gatherhouse house = Houses.open();
            tallPiece(house);
            Houses.renew(house, 0);
            int low = Houses.ready(house, 0, 20);
            house.swing(low, 0, lower - 10);
            house.pass(6);
            house.split(low, 0);
            house.pass(4);
            Houses.annealed(house, low);
            Check.same(house.state(low), 'd');
            Check.same(house.height(low), lower);
            if (lower == 20) {
                Check.unsupported(house, () -> house.set(2, 2, 99));
                Check.same(house.isInSet(low), false);
            } else {
                Check.unsupported(house, () -> house.set(2, 2, 98));
                Check.same(house.set(2, 2, 99), 99);
            }
        }
    }

    private static void tallPiece(Gatherhouse house) {
        int piece = Houses.ready(house, 0, 60);
        house.split(piece, 0);
        house.pass(4);
        for (int ring = 0; ring < 2; ring++) {
            house.swing(piece, ring, 30);
            house.pass(6);
            house.swing(piece, ring, 25);
            house.pass(6);
        }
        Check.same(house.height(piece), 120);
        Houses.annealed(house, piece);
        Check.same(house.state(piece), 'd');
    }

    private static void setOfAll() {
        for (int count = 2; count <= 6; count++) {
            Gatherhouse house = Houses.open();
            for (int i = 0; i < count; i++) {
                house.crack(Houses.thinOnPipe(house, 0));
                house.pass(3);
            }
            house.drop(10);
            Check.same(house.hours(110), count);
            int all = count;
            if (count < 6) {
                Check.noElement(house, () -> house.set(all + 1, 1, 99));
            }
            Check.same(house.set(all, 1, 0), 0);
            for (int i = 0; i < count; i++) {
                Check.same(house.isInSet(i), true);
            }
            Check.noElement(house, () -> house.set(2, 1, 99));
        }
    }

    private static void setOfWhole() {
        Gatherhouse house = with(new int[] {600, 1100, 105});
        for (int i = 0; i < 2; i++) {
            Houses.thinOnPipe(house, 0);
            house.lay(i, 1, 1);
            house.pass(15);
            Houses.crack(house, i);
        }
        house.drop(10);
        Check.same(house.hours(110), 2);
        Check.same(house.days(20), 2);
        Check.noElement(house, () -> house.set(2, 1, 99));
        Check.same(house.isInSet(0), false);
    }

    private static void pricesAreCut() {
        int[][] swungAndPrice = {{0, 480}, {5, 450}, {1, 462}, {6, 480}};
        for (int[] row : swungAndPrice) {
            Gatherhouse house = Houses.open();
            house.hours(50);
            house.crack(Houses.thinOnPipe(house, row[0]));
            house.pass(3);
            house.crack(Houses.thinOnPipe(house, row[0]));
            house.pass(3);
            house.drop(10);
            house.hours(110);
            Check.same(house.mass(0), row[1]);
            Check.same(house.isFirst(0), false);
            int price = row[1] / 50;
            Check.same(house.price(0), price);
            house.set(2, 1, 0);
            Check.same(house.price(0), price + price / 2);
            Check.same(house.sell(0), price + price / 2);
            Check.same(house.takings(), price + price / 2);
        }
    }

    private static void checksumWraps() {
        Gatherhouse house = sixteen();
        BigInteger factor = BigInteger.valueOf(31);
        BigInteger sum = BigInteger.valueOf(7);
        for (int i = 0; i < 16; i++) {
            sum = sum.multiply(factor).add(BigInteger.valueOf(house.state(i)));
            sum = sum.multiply(factor).add(BigInteger.valueOf(house.mass(i)));
            sum = sum.multiply(factor).add(BigInteger.valueOf(house.strain(i)));
        }
        Check.same(sum.bitLength() > 64, true);
        Check.same(house.checksum(), sum.longValue());
    }

    /** Six that came out of the lehr with strains, of other masses, and ten that are still on pipes. */
    private static Gatherhouse sixteen() {
        Gatherhouse house = Houses.open();
        for (int i = 0; i < 6; i++) {
            Houses.crack(house, Houses.ready(house, 0, 10 + 5 * i));
        }
        Check.same(house.hours(40), 6);
        for (int i = 6; i < 16; i++) {
            Houses.ready(house, 0, 20 + i);
        }
        return house;
    }

    private static void sharesAndMeans() {
        Gatherhouse house = sixteen();
        int whole = 0;
        int sum = 0;
        for (int i = 0; i < 16; i++) {
            whole += house.state(i) == 'x' ? 0 : 1;
            sum += house.mass(i);
        }
        Check.same(whole, 12);
        Check.same(house.wholeShare(), 0.75f);
        Check.same(house.meanMass(), sum / 16.0);
        house.pass(1);
        Check.same(house.wholeShare(), 0.75f);
        house.pass(600);
        Check.same(house.wholeShare(), (float) 2 / (float) 16);
        Check.same(house.meanMass(), sum / 16.0);
        Gatherhouse one = Houses.open();
        Check.noElement(one, one::wholeShare);
        Check.noElement(one, one::meanMass);
        one.gather(0, 10);
        Check.same(one.wholeShare(), 1.0f);
        Check.same(one.meanMass(), 500.0);
        one.pass(600);
        Check.same(one.wholeShare(), 0.0f);
        Check.same(one.meanMass(), 500.0);
    }
}
