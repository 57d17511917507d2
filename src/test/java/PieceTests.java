/** Promises 23 to 33: what pieces tell. */
final class PieceTests {
    private PieceTests() {
    }

    static void run() {
        Check.test("23: state", PieceTests::stateTells);
        Check.test("24: heatOf", PieceTests::heatOfTells);
        Check.test("25, 26: rings and ring", PieceTests::ringsTell);
        Check.test("26: ring refuses", PieceTests::ringRefuses);
        Check.test("27, 28: mass and height", PieceTests::massAndHeight);
        Check.test("29: layers", PieceTests::layersTell);
        Check.test("30: flaws", PieceTests::flawsTell);
        Check.test("31: low and high", PieceTests::lowTells);
        Check.test("31: sheared glasses still count", PieceTests::shearedGlassesCount);
        Check.test("31: four glasses in a piece", PieceTests::fourGlasses);
        Check.test("32: strain", PieceTests::strainTells);
        Check.test("33: isFirst", PieceTests::isFirstTells);
        Check.test("23 to 33: no such piece", PieceTests::noSuchPiece);
    }

    private static void stateTells() {
        Gatherhouse house = Houses.open();
        int piece = Houses.first(house);
        Check.same(house.state(piece), 'd');
        house.sell(piece);
        Check.same(house.state(piece), 's');
        Houses.renew(house, 0);
        int other = Houses.ready(house, 0, 10);
        Check.same(house.state(other), 'p');
        house.crack(other);
        Check.same(house.state(other), 'l');
        house.pass(3);
        int lost = house.gather(0, 60);
        house.pass(300);
        Check.same(house.state(lost), 'x');
    }

    private static void heatOfTells() {
        Gatherhouse house = Houses.open();
        int piece = Houses.ready(house, 0, 20);
        Check.same(house.heatOf(piece), 1060);
        Houses.crack(house, piece);
        Check.same(house.heatOf(piece), 1060);
        house.hours(3);
        Check.same(house.heatOf(piece), 940);
        house.hours(20);
        Check.same(house.heatOf(piece), 140);
        house.hours(1);
        Check.noElement(house, () -> house.heatOf(piece));
        int first = Houses.first(house);
        Check.noElement(house, () -> house.heatOf(first));
        house.sell(first);
        Check.noElement(house, () -> house.heatOf(first));
    }

    private static void ringsTell() {
        Gatherhouse house = Houses.open();
        int piece = Houses.ready(house, 0, 23);
        Check.same(house.rings(piece), 1);
        Check.same(house.ring(piece, 0, 'r'), 5);
        Check.same(house.ring(piece, 0, 'h'), 10);
        Check.same(house.ring(piece, 0, 'w'), 23);
        house.split(piece, 0);
        Check.same(house.rings(piece), 2);
        Check.same(house.ring(piece, 1, 'h'), 5);
        house.pass(300);
        Check.same(house.state(piece), 'x');
        Check.same(house.rings(piece), 2);
        Check.same(house.ring(piece, 1, 'w'), 23);
    }

    private static void ringRefuses() {
        Gatherhouse house = Houses.open();
        int piece = Houses.ready(house, 0, 23);
        Check.index(house, () -> house.ring(piece, 1, '?'));
        Check.index(house, () -> house.ring(piece, -1, 'r'));
        Check.index(house, () -> house.ring(piece, 8, 'r'));
        Check.index(house, () -> house.ring(1, 0, 'r'));
        Check.argument(house, () -> house.ring(piece, 0, '?'));
        Check.argument(house, () -> house.ring(piece, 0, 'R'));
        Check.argument(house, () -> house.ring(piece, 0, (char) 0));
    }

    private static void massAndHeight() {
        Gatherhouse house = Houses.open();
        int piece = Houses.ready(house, 0, 23);
        Check.same(house.mass(piece), 5 * 10 * 23);
        Check.same(house.height(piece), 10);
        house.split(piece, 0);
        house.pass(4);
        house.swing(piece, 1, 2);
        Check.same(house.mass(piece), 5 * 5 * 23 + 5 * 7 * 16);
        Check.same(house.height(piece), 12);
        house.pass(6);
        house.lay(piece, 0, 2);
        Check.same(house.mass(piece), 5 * 5 * 25 + 5 * 7 * 18);
        Check.same(house.height(piece), 12);
    }

    private static void layersTell() {
        Gatherhouse house = Houses.open();
        int piece = Houses.ready(house, 0, 20);
        Check.same(house.layers(piece), 0);
        house.split(piece, 0);
        house.pass(4);
        house.lay(piece, 0, 1);
        house.pass(15);
        Check.same(house.layers(piece), 1);
        int other = Houses.ready(house, 0, 20);
        house.join(piece, other);
        house.pass(12);
        Check.same(house.layers(piece), 1);
        house.lay(piece, 0, 1);
        house.pass(15);
        Check.same(house.layers(piece), 2);
        house.shear(piece);
        Check.same(house.layers(piece), 2);
    }

    private static void flawsTell() {
        Gatherhouse house = Houses.open();
        Check.same(house.flaws(Houses.ready(house, 0, 20)), 0);
        house.pass(300);
        house.hours(40);
        int piece = Houses.ready(house, 0, 20);
        Check.same(house.flaws(piece), 1);
        house.change(0);
        Check.same(house.flaws(piece), 1);
    }

    private static void lowTells() {
        Gatherhouse house = new Gatherhouse();
        house.glass(650, 1000, 100, 0);
        house.glass(700, 1050, 100, 1);
        house.pot(0);
        house.pot(1);
        Houses.fill(house, 0);
        Houses.fill(house, 1);
        house.hours(10);
        int piece = Houses.ready(house, 0, 40);
        Check.same(house.low(piece, false), 650);
        Check.same(house.low(piece, true), 1000);
        house.pass(50);
        house.lay(piece, 1, 1);
        Check.same(house.low(piece, false), 700);
        Check.same(house.low(piece, true), 1000);
    }

    private static void shearedGlassesCount() {
        Gatherhouse house = new Gatherhouse();
        house.glass(650, 1000, 100, 0);
        house.glass(700, 950, 100, 1);
        house.pot(0);
        house.pot(1);
        Houses.fill(house, 0);
        Houses.fill(house, 1);
        house.hours(10);
        int piece = Houses.ready(house, 0, 40);
        int other = Houses.ready(house, 1, 40);
        house.pass(60);
        house.join(piece, other);
        house.pass(12);
        house.shear(piece);
        Check.same(house.low(piece, false), 700);
        Check.same(house.low(piece, true), 950);
    }

    private static void fourGlasses() {
        Gatherhouse house = new Gatherhouse();
        for (int i = 0; i < 4; i++) {
            house.glass(600 + 10 * i, 1100 - 10 * i, 100, i);
        }
        for (int i = 0; i < 4; i++) {
            house.pot(i);
            house.charge(i, 500);
        }
        house.hours(10);
        int one = Houses.ready(house, 0, 40);
        int two = Houses.ready(house, 1, 40);
        house.pass(20);
        house.join(one, two);
        house.pass(12);
        house.lay(one, 2, 1);
        house.pass(15);
        house.lay(one, 3, 1);
        house.pass(15);
        Check.same(house.low(one, false), 630);
        Check.same(house.low(one, true), 1070);
        Check.same(house.low(two, false), 610);
        Check.same(house.colour(one, 1), 3);
    }

    private static void strainTells() {
        Gatherhouse house = Houses.open();
        int piece = Houses.ready(house, 0, 20);
        Check.same(house.strain(piece), 0);
        Houses.crack(house, piece);
        Check.same(house.strain(piece), 0);
        house.hours(1);
        Check.same(house.strain(piece), 8);
        house.hours(15);
        Check.same(house.heatOf(piece), 420);
        Check.same(house.strain(piece), 128);
        house.hours(1);
        Check.same(house.strain(piece), 128);
        Check.same(house.state(piece), 'l');
        house.hours(7);
        Check.same(house.strain(piece), 128);
        Check.same(house.state(piece), 'x');
    }

    private static void isFirstTells() {
        Gatherhouse house = Houses.open();
        int lost = Houses.ready(house, 0, 20);
        Check.noElement(house, () -> house.isFirst(lost));
        house.pass(300);
        Check.noElement(house, () -> house.isFirst(lost));
        int first = Houses.first(house);
        Check.same(house.isFirst(first), true);
        house.sell(first);
        Check.same(house.isFirst(first), true);
        Houses.renew(house, 0);
        int broken = Houses.ready(house, 0, 40);
        house.crack(broken);
        Check.noElement(house, () -> house.isFirst(broken));
        house.pass(3);
        house.hours(24);
        Check.same(house.state(broken), 'x');
        Check.same(house.isFirst(broken), false);
    }

    private static void noSuchPiece() {
        Gatherhouse house = Houses.open();
        for (int piece : new int[] {0, -1, 15, 16, Integer.MIN_VALUE, Integer.MAX_VALUE}) {
            Check.index(house, () -> house.state(piece));
            Check.index(house, () -> house.heatOf(piece));
            Check.index(house, () -> house.rings(piece));
            Check.index(house, () -> house.ring(piece, 0, 'r'));
            Check.index(house, () -> house.mass(piece));
            Check.index(house, () -> house.height(piece));
            Check.index(house, () -> house.layers(piece));
            Check.index(house, () -> house.flaws(piece));
            Check.index(house, () -> house.low(piece, true));
            Check.index(house, () -> house.strain(piece));
            Check.index(house, () -> house.isFirst(piece));
            Check.index(house, () -> house.cut(piece, 0, 1));
            Check.index(house, () -> house.colour(piece, 0));
            Check.index(house, () -> house.isInSet(piece));
            Check.index(house, () -> house.price(piece));
            Check.index(house, () -> house.sell(piece));
        }
    }
}
