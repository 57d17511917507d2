/** Promises 13 to 20: gather, heat, blow, swing, neck, split, shear and lay. */
final class WorkTests {
    private WorkTests() {
    }

    static void run() {
        Check.test("13: gather makes a piece", WorkTests::gatherMakes);
        Check.test("13: gather bounds", WorkTests::gatherBounds);
        Check.test("13: gather wants clear glass, enough of it, and the gatherer", WorkTests::gatherWants);
        Check.test("13: at most sixteen pieces, told last", WorkTests::sixteenPieces);
        Check.test("14: heat gains, at most 1100", WorkTests::heatGains);
        Check.test("14: heat takes the piece for its seconds, the boy for two", WorkTests::heatTakes);
        Check.test("14: two glory holes are shared", WorkTests::holesAreShared);
        Check.test("14: heat bounds", WorkTests::heatBounds);
        Check.test("15: blow", WorkTests::blowThins);
        Check.test("15: blow bounds", WorkTests::blowBounds);
        Check.test("16: swing", WorkTests::swingLengthens);
        Check.test("16: swing bounds", WorkTests::swingBounds);
        Check.test("17: neck", WorkTests::neckThickens);
        Check.test("17: neck bounds", WorkTests::neckBounds);
        Check.test("18: split", WorkTests::splitParts);
        Check.test("18: split bounds", WorkTests::splitBounds);
        Check.test("19: shear", WorkTests::shearLoses);
        Check.test("19: shear bounds", WorkTests::shearBounds);
        Check.test("20: lay", WorkTests::layCovers);
        Check.test("20: lay bounds", WorkTests::layBounds);
        Check.test("20: lay wants a clear pot with enough", WorkTests::layWantsGlass);
        Check.test("20: lay wants glasses that agree", WorkTests::layWantsAgreement);
        Check.test("20: lay wants the heat of its own range", WorkTests::layWantsHeat);
        Check.test("20: at most four layers, walls within bounds", WorkTests::layWithinBounds);
        Check.test("15 to 20, 22: refused when busy, too hot or off the pipe", WorkTests::workIsRefused);
        Check.test("15 to 20, 22: the range has both its ends", WorkTests::rangeEnds);
    }

    private static void gatherMakes() {
        Gatherhouse house = Houses.open();
        Check.same(house.gather(0, 40), 0);
        Check.same(house.of(0, 'm'), 960);
        Check.same(house.state(0), 'p');
        Check.same(house.heatOf(0), 1100);
        Check.same(house.rings(0), 1);
        Check.same(house.ring(0, 0, 'r'), 5);
        Check.same(house.ring(0, 0, 'h'), 10);
        Check.same(house.ring(0, 0, 'w'), 40);
        Check.same(house.flaws(0), 0);
        Check.same(house.layers(0), 0);
        Check.same(house.strain(0), 0);
        house.pass(20);
        Check.same(house.gather(0, 10), 1);
        Houses.crack(house, 0);
        house.pass(17);
        Houses.crack(house, 1);
        house.hours(90);
        Check.same(house.of(0, 't'), 2);
        Check.same(house.gather(0, 10), 2);
        Check.same(house.flaws(2), 2);
        Check.same(house.flaws(0), 0);
    }

    private static void gatherBounds() {
        Gatherhouse house = Houses.open();
        Check.index(house, () -> house.gather(1, 0));
        Check.index(house, () -> house.gather(-1, 20));
        Check.index(house, () -> house.gather(4, 20));
        Check.argument(house, () -> house.gather(0, 9));
        Check.argument(house, () -> house.gather(0, 61));
        Check.argument(house, () -> house.gather(0, -20));
        Check.same(house.of(0, 'm'), 1000);
        Check.same(Houses.ready(house, 0, 10), 0);
        Check.same(Houses.ready(house, 0, 60), 1);
        Check.same(house.ring(1, 0, 'w'), 60);
    }

    private static void gatherWants() {
        Gatherhouse house = new Gatherhouse();
        house.glass(600, 1100, 100, 0);
        house.pot(0);
        Check.unsupported(house, () -> house.gather(0, 10));
        house.charge(0, 30);
        Check.unsupported(house, () -> house.gather(0, 10));
        house.hours(9);
        Check.same(house.of(0, 's'), 12);
        Check.unsupported(house, () -> house.gather(0, 10));
        Check.argument(house, () -> house.gather(0, 61));
        house.hours(1);
        Check.unsupported(house, () -> house.gather(0, 31));
        Check.same(house.of(0, 'm'), 30);
        Check.same(house.gather(0, 20), 0);
        Check.unsupported(house, () -> house.gather(0, 10));
        house.pass(19);
        Check.unsupported(house, () -> house.gather(0, 10));
        house.pass(1);
        Check.same(house.gather(0, 10), 1);
        Check.same(house.of(0, 'm'), 0);
    }

    private static void sixteenPieces() {
        Gatherhouse house = Houses.of(1100, 1100, 100);
        for (int i = 0; i < 16; i++) {
            Check.same(house.gather(0, 20), i);
            Check.same(house.pass(20), 1);
        }
        Check.illegalState(house, () -> house.gather(0, 20));
        Check.argument(house, () -> house.gather(0, 9));
        Check.same(house.of(0, 'm'), 680);
        Check.same(house.pay('g'), 16);
        house.charge(0, 1);
        Check.unsupported(house, () -> house.gather(0, 20));
        Check.index(house, () -> house.state(16));
    }

    private static void heatGains() {
        Gatherhouse house = Houses.open();
        int piece = house.gather(0, 20);
        house.pass(100);
        Check.same(house.heatOf(piece), 900);
        house.heat(piece, 25);
        Check.same(house.heatOf(piece), 900);
        house.pass(1);
        Check.same(house.heatOf(piece), 908);
        house.pass(24);
        Check.same(house.heatOf(piece), 1100);
        house.pass(1);
        Check.same(house.heatOf(piece), 1098);
        house.heat(piece, 3);
        house.pass(2);
        Check.same(house.heatOf(piece), 1100);
    }

    private static void heatTakes() {
        Gatherhouse house = Houses.open();
        int piece = house.gather(0, 60);
        Check.unsupported(house, () -> house.heat(piece, 5));
        house.pass(20);
        Check.same(house.heat(piece, 5), 1);
        Check.unsupported(house, () -> house.blow(piece, 0, 1));
        house.pass(2);
        Check.same(house.busy('b'), 0);
        Check.unsupported(house, () -> house.heat(piece, 5));
        house.pass(2);
        Check.unsupported(house, () -> house.blow(piece, 0, 1));
        house.pass(1);
        Check.same(house.blow(piece, 0, 1), 50);
        house.pass(8);
        house.heat(piece, 1);
        house.pass(1);
        Check.same(house.busy('b'), 1);
        Check.unsupported(house, () -> house.heat(piece, 1));
        Check.same(house.blow(piece, 0, 1), 42);
    }

    private static void holesAreShared() {
        Gatherhouse house = Houses.open();
        int one = Houses.ready(house, 0, 20);
        int two = Houses.ready(house, 0, 20);
        int three = Houses.ready(house, 0, 20);
        Check.same(house.heat(one, 6), 1);
        Check.unsupported(house, () -> house.heat(two, 60));
        house.pass(2);
        Check.same(house.heat(two, 60), 0);
        house.pass(3);
        Check.same(house.busy('b'), 0);
        Check.unsupported(house, () -> house.heat(three, 10));
        house.pass(1);
        Check.same(house.heat(three, 2), 0);
        house.pass(2);
        Check.same(house.heat(one, 2), 0);
        house.pass(60);
        Check.same(house.heat(one, 1), 1);
    }

    private static void heatBounds() {
        Gatherhouse house = Houses.of(700, 900, 100);
        Check.index(house, () -> house.heat(0, 0));
        int piece = Houses.ready(house, 0, 20);
        Check.index(house, () -> house.heat(1, 5));
        Check.index(house, () -> house.heat(-1, 5));
        Check.argument(house, () -> house.heat(piece, 0));
        Check.argument(house, () -> house.heat(piece, 61));
        Check.same(house.heat(piece, 60), 1);
        house.pass(60);
        Check.same(house.heatOf(piece), 1100);
        house.pass(100);
        house.crack(piece);
        house.pass(3);
        Check.unsupported(house, () -> house.heat(piece, 5));
        Check.argument(house, () -> house.heat(piece, 61));
    }

    private static void blowThins() {
        Gatherhouse house = Houses.open();
        int piece = Houses.ready(house, 0, 40);
        Check.same(house.blow(piece, 0, 2), 28);
        Check.same(house.ring(piece, 0, 'r'), 7);
        Check.same(house.ring(piece, 0, 'h'), 10);
        Check.same(house.ring(piece, 0, 'w'), 28);
        Check.unsupported(house, () -> house.blow(piece, 0, 2));
        house.pass(8);
        Check.same(house.blow(piece, 0, 30), 5);
        house.pass(8);
        Check.unsupported(house, () -> house.blow(piece, 0, 24));
        Check.same(house.blow(piece, 0, 23), 3);
        Check.same(house.ring(piece, 0, 'r'), 60);
        house.pass(8);
        Check.unsupported(house, () -> house.blow(piece, 0, 1));
    }

    private static void blowBounds() {
        Gatherhouse house = Houses.open();
        Check.index(house, () -> house.blow(0, 0, 1));
        int piece = Houses.ready(house, 0, 10);
        Check.index(house, () -> house.blow(piece, 1, 0));
        Check.index(house, () -> house.blow(piece, -1, 1));
        Check.index(house, () -> house.blow(piece, 8, 1));
        Check.argument(house, () -> house.blow(piece, 0, 0));
        Check.argument(house, () -> house.blow(piece, 0, 31));
        Check.argument(house, () -> house.blow(piece, 0, -1));
        Check.unsupported(house, () -> house.blow(piece, 0, 21));
        Check.same(house.ring(piece, 0, 'r'), 5);
        Check.same(house.busy('f'), 0);
        Check.same(house.blow(piece, 0, 20), 2);
    }

    private static void swingLengthens() {
        Gatherhouse house = Houses.open();
        int piece = Houses.ready(house, 0, 40);
        Check.same(house.swing(piece, 0, 3), 30);
        Check.same(house.ring(piece, 0, 'h'), 13);
        Check.same(house.ring(piece, 0, 'r'), 5);
        Check.same(house.ring(piece, 0, 'w'), 30);
        Check.unsupported(house, () -> house.swing(piece, 0, 3));
        house.pass(6);
        Check.same(house.swing(piece, 0, 30), 9);
        house.pass(6);
        Check.unsupported(house, () -> house.swing(piece, 0, 18));
        Check.same(house.swing(piece, 0, 17), 6);
        Check.same(house.ring(piece, 0, 'h'), 60);
    }

    private static void swingBounds() {
        Gatherhouse house = Houses.open();
        Check.index(house, () -> house.swing(0, 0, 1));
        int piece = Houses.ready(house, 0, 10);
        Check.index(house, () -> house.swing(piece, 1, 0));
        Check.index(house, () -> house.swing(piece, -1, 1));
        Check.argument(house, () -> house.swing(piece, 0, 0));
        Check.argument(house, () -> house.swing(piece, 0, 31));
        Check.same(house.swing(piece, 0, 30), 2);
        house.pass(6);
        Check.unsupported(house, () -> house.swing(piece, 0, 20));
        Check.same(house.ring(piece, 0, 'h'), 40);
        Check.same(house.busy('s'), 0);
    }

    private static void neckThickens() {
        Gatherhouse house = Houses.open();
        int piece = Houses.ready(house, 0, 50);
        Check.same(house.neck(piece, 0, 1), 62);
        Check.same(house.ring(piece, 0, 'r'), 4);
        Check.same(house.ring(piece, 0, 'h'), 10);
        Check.unsupported(house, () -> house.neck(piece, 0, 1));
        house.pass(10);
        Check.same(house.neck(piece, 0, 1), 82);
        house.pass(10);
        Check.unsupported(house, () -> house.neck(piece, 0, 1));
        Check.same(house.ring(piece, 0, 'w'), 82);
        int thin = Houses.ready(house, 0, 19);
        Check.same(house.neck(thin, 0, 4), 95);
        Check.same(house.ring(thin, 0, 'r'), 1);
    }

    private static void neckBounds() {
        Gatherhouse house = Houses.open();
        Check.index(house, () -> house.neck(0, 0, 1));
        int piece = Houses.ready(house, 0, 10);
        Check.index(house, () -> house.neck(piece, 1, 0));
        Check.index(house, () -> house.neck(piece, -1, 1));
        Check.argument(house, () -> house.neck(piece, 0, 0));
        Check.argument(house, () -> house.neck(piece, 0, 31));
        Check.unsupported(house, () -> house.neck(piece, 0, 5));
        Check.unsupported(house, () -> house.neck(piece, 0, 6));
        Check.unsupported(house, () -> house.neck(piece, 0, 30));
        Check.same(house.ring(piece, 0, 'r'), 5);
        Check.same(house.busy('f'), 0);
        int thick = Houses.ready(house, 0, 20);
        Check.unsupported(house, () -> house.neck(thick, 0, 4));
        Check.same(house.neck(thick, 0, 2), 33);
        house.pass(10);
        Check.same(house.neck(thick, 0, 2), 99);
        Check.same(house.isSound(), true);
    }

    private static void splitParts() {
        Gatherhouse house = Houses.open();
        int piece = Houses.ready(house, 0, 40);
        house.swing(piece, 0, 1);
        house.pass(6);
        Check.same(house.split(piece, 0), 2);
        Check.same(house.ring(piece, 0, 'h'), 5);
        Check.same(house.ring(piece, 1, 'h'), 6);
        Check.same(house.ring(piece, 1, 'w'), 36);
        Check.same(house.ring(piece, 1, 'r'), 5);
        Check.unsupported(house, () -> house.split(piece, 0));
        house.pass(4);
        house.blow(piece, 1, 4);
        house.pass(8);
        Check.same(house.ring(piece, 0, 'r'), 5);
        Check.same(house.split(piece, 0), 3);
        Check.same(house.ring(piece, 0, 'h'), 2);
        Check.same(house.ring(piece, 1, 'h'), 3);
        Check.same(house.ring(piece, 1, 'r'), 5);
        Check.same(house.ring(piece, 2, 'h'), 6);
        Check.same(house.ring(piece, 2, 'r'), 9);
        Check.same(house.height(piece), 11);
        splitsTheHeightOf4();
    }

    private static void splitsTheHeightOf4() {
        Gatherhouse house = Houses.open();
        int piece = Houses.ready(house, 0, 60);
        house.swing(piece, 0, 6);
        house.pass(6);
        house.split(piece, 0);
        house.pass(4);
        house.split(piece, 0);
        house.pass(4);
        Check.same(house.ring(piece, 0, 'h'), 4);
        Check.same(house.split(piece, 0), 4);
        Check.same(house.ring(piece, 0, 'h'), 2);
        Check.same(house.ring(piece, 1, 'h'), 2);
    }

    private static void splitBounds() {
        Gatherhouse house = Houses.open();
        Check.index(house, () -> house.split(0, 0));
        int piece = Houses.ready(house, 0, 60);
        Check.index(house, () -> house.split(piece, 1));
        Check.index(house, () -> house.split(piece, -1));
        house.swing(piece, 0, 30);
        house.pass(6);
        int[] parted = {0, 0, 0, 3, 3, 5};
        for (int i = 0; i < parted.length; i++) {
            Check.same(house.split(piece, parted[i]), i + 2);
            house.pass(4);
        }
        Check.same(house.ring(piece, 0, 'h'), 5);
        Check.same(house.split(piece, 0), 8);
        house.pass(4);
        Check.same(house.ring(piece, 0, 'h'), 2);
        Check.same(house.ring(piece, 7, 'h'), 5);
        Check.unsupported(house, () -> house.split(piece, 7));
        Check.same(house.rings(piece), 8);
        Check.same(house.height(piece), 40);
        house.shear(piece);
        house.pass(5);
        Check.unsupported(house, () -> house.split(piece, 0));
        Check.unsupported(house, () -> house.split(piece, 1));
        Check.same(house.rings(piece), 7);
        Check.same(house.busy('s'), 0);
        Check.same(house.split(piece, 2), 8);
    }

    private static void shearLoses() {
        Gatherhouse house = Houses.open();
        int piece = Houses.ready(house, 0, 40);
        house.split(piece, 0);
        house.pass(4);
        house.blow(piece, 1, 5);
        house.pass(8);
        Check.same(house.shear(piece), 10 * 5 * 20);
        Check.same(house.rings(piece), 1);
        Check.same(house.mass(piece), 5 * 5 * 40);
        Check.same(house.height(piece), 5);
        Check.index(house, () -> house.ring(piece, 1, 'w'));
        Check.index(house, () -> house.colour(piece, 1));
    }

    private static void shearBounds() {
        Gatherhouse house = Houses.open();
        Check.index(house, () -> house.shear(0));
        int piece = Houses.ready(house, 0, 40);
        Check.index(house, () -> house.shear(-1));
        Check.index(house, () -> house.shear(16));
        Check.unsupported(house, () -> house.shear(piece));
        house.split(piece, 0);
        Check.unsupported(house, () -> house.shear(piece));
        Check.same(house.rings(piece), 2);
        house.pass(4);
        house.shear(piece);
        house.pass(5);
        Check.unsupported(house, () -> house.shear(piece));
        Check.same(house.rings(piece), 1);
    }

    private static void layCovers() {
        Gatherhouse house = Houses.ofTwo(100, 100);
        int piece = Houses.ready(house, 0, 30);
        house.split(piece, 0);
        house.pass(4);
        house.blow(piece, 1, 1);
        house.pass(8);
        Check.same(house.lay(piece, 1, 9), 1);
        Check.same(house.of(1, 'm'), 1000 - 18);
        Check.same(house.ring(piece, 0, 'w'), 39);
        Check.same(house.ring(piece, 1, 'w'), 34);
        Check.same(house.colour(piece, 0), 2);
        Check.same(house.colour(piece, 1), 2);
        Check.unsupported(house, () -> house.lay(piece, 1, 1));
        house.pass(15);
        Check.same(house.lay(piece, 0, 1), 2);
        Check.same(house.of(0, 'm'), 970 - 2);
        Check.same(house.colour(piece, 1), 1);
        Check.same(house.flaws(piece), 0);
    }

    private static void layBounds() {
        Gatherhouse house = Houses.ofTwo(100, 100);
        Check.index(house, () -> house.lay(0, 1, 1));
        int piece = Houses.ready(house, 0, 30);
        Check.index(house, () -> house.lay(piece, 2, 0));
        Check.index(house, () -> house.lay(piece, -1, 1));
        Check.index(house, () -> house.lay(-1, 1, 1));
        Check.index(house, () -> house.lay(16, 1, 1));
        Check.argument(house, () -> house.lay(piece, 1, 0));
        Check.argument(house, () -> house.lay(piece, 1, 10));
        Check.same(house.layers(piece), 0);
        Check.same(house.ring(piece, 0, 'w'), 30);
    }

    private static void layWantsGlass() {
        Gatherhouse house = new Gatherhouse();
        house.glass(600, 1100, 100, 0);
        house.pot(0);
        house.pot(0);
        Houses.fill(house, 0);
        house.hours(1);
        house.charge(1, 17);
        house.hours(9);
        int piece = Houses.ready(house, 0, 30);
        house.split(piece, 0);
        house.pass(4);
        Check.unsupported(house, () -> house.lay(piece, 1, 8));
        house.crack(piece);
        house.pass(3);
        house.hours(1);
        int other = Houses.ready(house, 0, 30);
        house.split(other, 0);
        house.pass(4);
        Check.unsupported(house, () -> house.lay(other, 1, 9));
        Check.same(house.of(1, 'm'), 17);
        Check.same(house.lay(other, 1, 8), 1);
        Check.same(house.of(1, 'm'), 1);
    }

    private static void layWantsAgreement() {
        Gatherhouse house = new Gatherhouse();
        house.glass(600, 1100, 100, 0);
        house.glass(600, 1100, 105, 1);
        house.glass(600, 1100, 97, 2);
        house.glass(600, 1100, 94, 3);
        for (int i = 0; i < 4; i++) {
            house.pot(i);
            house.charge(i, 500);
        }
        house.hours(10);
        int piece = Houses.ready(house, 0, 20);
        Check.unsupported(house, () -> house.lay(piece, 3, 1));
        house.lay(piece, 1, 1);
        house.pass(15);
        Check.unsupported(house, () -> house.lay(piece, 2, 1));
        Check.same(house.of(2, 'm'), 500);
        Check.same(house.lay(piece, 1, 1), 2);
        house.pass(15);
        int other = Houses.ready(house, 0, 20);
        Check.same(house.lay(other, 2, 1), 1);
        narrowGlassAgreesWithNone();
    }

    /** A glass with less than 100 degrees does not agree even with itself. */
    private static void narrowGlassAgreesWithNone() {
        Gatherhouse house = Houses.of(1001, 1100, 100);
        int piece = Houses.ready(house, 0, 20);
        Check.unsupported(house, () -> house.lay(piece, 0, 1));
        Gatherhouse wider = Houses.of(1000, 1100, 100);
        int other = Houses.ready(wider, 0, 20);
        Check.same(wider.lay(other, 0, 1), 1);
    }

    private static void layWantsHeat() {
        Gatherhouse house = new Gatherhouse();
        house.glass(600, 1100, 100, 0);
        house.glass(900, 1050, 100, 1);
        house.pot(0);
        house.pot(1);
        Houses.fill(house, 0);
        Houses.fill(house, 1);
        house.hours(10);
        int piece = Houses.ready(house, 0, 20);
        house.pass(4);
        Check.same(house.heatOf(piece), 1052);
        Check.unsupported(house, () -> house.lay(piece, 1, 1));
        house.pass(1);
        Check.same(house.lay(piece, 1, 1), 1);
        Check.same(house.low(piece, false), 900);
        Check.same(house.low(piece, true), 1050);
        house.pass(75);
        Check.same(house.heatOf(piece), 900);
        Check.same(house.pass(1), 1);
        int cool = house.gather(0, 20);
        house.pass(101);
        Check.same(house.heatOf(cool), 898);
        Check.unsupported(house, () -> house.lay(cool, 1, 1));
        house.heat(cool, 1);
        house.pass(4);
        Check.same(house.heatOf(cool), 900);
        Check.same(house.lay(cool, 1, 1), 1);
        Check.same(house.pass(1), 1);
    }

    private static void layWithinBounds() {
        Gatherhouse house = Houses.open();
        int piece = Houses.ready(house, 0, 20);
        for (int i = 1; i <= 4; i++) {
            Check.same(house.lay(piece, 0, 1), i);
            house.pass(15);
        }
        Check.unsupported(house, () -> house.lay(piece, 0, 1));
        Check.same(house.layers(piece), 4);
        Check.same(house.ring(piece, 0, 'w'), 24);
        int thick = Houses.ready(house, 0, 19);
        house.split(thick, 0);
        house.pass(4);
        house.neck(thick, 1, 4);
        house.pass(10);
        Check.same(house.ring(thick, 1, 'w'), 95);
        Check.unsupported(house, () -> house.lay(thick, 0, 5));
        Check.same(house.ring(thick, 0, 'w'), 19);
        Check.same(house.lay(thick, 0, 4), 1);
        Check.same(house.ring(thick, 1, 'w'), 99);
    }

    private static void workIsRefused() {
        Gatherhouse house = Houses.of(600, 1050, 100);
        int piece = house.gather(0, 50);
        refusesAllWork(house, piece);
        house.pass(20);
        Check.same(house.heatOf(piece), 1060);
        refusesAllWork(house, piece);
        house.pass(10);
        int helper = house.gather(0, 50);
        house.pass(30);
        rolesAreRefused(house, piece, helper);
        house.pass(30);
        house.crack(piece);
        house.pass(3);
        refusesAllWork(house, piece);
        house.pass(300);
        Check.same(house.state(helper), 'x');
        refusesAllWork(house, helper);
    }

    private static void rolesAreRefused(Gatherhouse house, int piece, int helper) {
        house.blow(helper, 0, 1);
        Check.unsupported(house, () -> house.blow(piece, 0, 1));
        Check.unsupported(house, () -> house.neck(piece, 0, 1));
        house.pass(8);
        house.swing(helper, 0, 1);
        Check.unsupported(house, () -> house.swing(piece, 0, 1));
        Check.unsupported(house, () -> house.split(piece, 0));
        house.pass(6);
        house.split(helper, 0);
        house.pass(4);
        house.split(piece, 0);
        house.pass(4);
        house.shear(helper);
        Check.unsupported(house, () -> house.shear(piece));
        house.pass(5);
        house.lay(helper, 0, 1);
        Check.unsupported(house, () -> house.lay(piece, 0, 1));
        house.pass(15);
        house.heat(helper, 1);
        Check.unsupported(house, () -> house.crack(piece));
        Check.unsupported(house, () -> house.heat(piece, 1));
        Check.same(house.lay(piece, 0, 1), 1);
    }

    private static void refusesAllWork(Gatherhouse house, int piece) {
        int mass = house.mass(piece);
        Check.unsupported(house, () -> house.blow(piece, 0, 1));
        Check.unsupported(house, () -> house.swing(piece, 0, 1));
        Check.unsupported(house, () -> house.neck(piece, 0, 1));
        Check.unsupported(house, () -> house.split(piece, 0));
        Check.unsupported(house, () -> house.shear(piece));
        Check.unsupported(house, () -> house.lay(piece, 0, 1));
        Check.unsupported(house, () -> house.crack(piece));
        Check.argument(house, () -> house.blow(piece, 0, 31));
        Check.index(house, () -> house.split(piece, 7));
        Check.same(house.mass(piece), mass);
    }

    private static void rangeEnds() {
        Gatherhouse house = Houses.of(1000, 1056, 100);
        int piece = Houses.ready(house, 0, 40);
        house.pass(1);
        Check.same(house.heatOf(piece), 1058);
        Check.unsupported(house, () -> house.split(piece, 0));
        house.pass(1);
        Check.same(house.split(piece, 0), 2);
        house.pass(28);
        Check.same(house.heatOf(piece), 1000);
        Check.same(house.split(piece, 0), 3);
    }
}
