/** Promises 38 and 39: cuts and colours. */
final class CutTests {
    private CutTests() {
    }

    static void run() {
        Check.test("38: a cut goes down through layers", CutTests::cutGoesDown);
        Check.test("38: a cut is of one ring", CutTests::cutIsOfOneRing);
        Check.test("38: rings have the layers laid over them", CutTests::ringsHaveTheirLayers);
        Check.test("38: four layers are cut through", CutTests::fourLayers);
        Check.test("38: cut bounds", CutTests::cutBounds);
        Check.test("38: cut wants a piece that is done", CutTests::cutWantsDone);
        Check.test("39: colour", CutTests::colourTells);
        Check.test("39: colour bounds", CutTests::colourBounds);
    }

    /** A house of clear pots of the colours 7, 8 and 9. */
    private static Gatherhouse house() {
        Gatherhouse house = new Gatherhouse();
        for (int i = 0; i < 3; i++) {
            house.glass(600, 1100, 100, 7 + i);
            house.pot(i);
            house.charge(i, 500);
        }
        house.hours(10);
        return house;
    }

    /** A thin piece of two rings, of the glass 7, with 2 of 8 and over it 1 of 9. */
    private static int layered(Gatherhouse house) {
        int piece = Houses.ready(house, 0, 10);
        house.blow(piece, 0, 5);
        house.pass(8);
        house.lay(piece, 1, 2);
        house.pass(15);
        house.split(piece, 0);
        house.pass(4);
        house.lay(piece, 2, 1);
        house.pass(15);
        Houses.annealed(house, piece);
        Check.same(house.state(piece), 'd');
        return piece;
    }

    private static void cutGoesDown() {
        Gatherhouse house = house();
        int piece = layered(house);
        int price = house.price(piece);
        Check.same(house.colour(piece, 0), 9);
        Check.unsupported(house, () -> house.cut(piece, 0, 2));
        Check.same(house.colour(piece, 0), 9);
        Check.same(house.cut(piece, 0, 1), 8);
        Check.unsupported(house, () -> house.cut(piece, 0, 3));
        Check.same(house.cut(piece, 0, 1), 8);
        Check.unsupported(house, () -> house.cut(piece, 0, 2));
        Check.same(house.cut(piece, 0, 1), 7);
        Check.unsupported(house, () -> house.cut(piece, 0, 1));
        Check.same(house.colour(piece, 0), 7);
        Check.same(house.ring(piece, 0, 'w'), 8);
        Check.same(house.layers(piece), 2);
        Check.same(house.price(piece), price);
        Check.same(house.isSound(), true);
        Check.same(house.pay('g'), 3);
        Check.same(house.pay('s'), 1);
        Check.same(house.pay('f'), 1);
        Check.same(house.pay('b'), 1);
    }

    private static void cutIsOfOneRing() {
        Gatherhouse house = house();
        int piece = layered(house);
        house.cut(piece, 0, 1);
        house.cut(piece, 0, 2);
        Check.same(house.colour(piece, 1), 9);
        Check.same(house.cut(piece, 1, 1), 8);
        Check.same(house.cut(piece, 1, 2), 7);
    }

    private static void ringsHaveTheirLayers() {
        Gatherhouse house = house();
        int piece = Houses.ready(house, 0, 10);
        house.blow(piece, 0, 5);
        house.pass(8);
        house.lay(piece, 1, 1);
        house.pass(15);
        int other = Houses.ready(house, 2, 10);
        house.blow(other, 0, 5);
        house.pass(8);
        house.join(piece, other);
        house.pass(12);
        Check.same(house.colour(piece, 0), 8);
        Check.same(house.colour(piece, 1), 9);
        house.lay(piece, 0, 2);
        house.pass(15);
        Houses.annealed(house, piece);
        Check.same(house.state(piece), 'd');
        Check.same(house.colour(piece, 1), 7);
        Check.same(house.cut(piece, 1, 2), 9);
        Check.unsupported(house, () -> house.cut(piece, 1, 1));
        Check.same(house.cut(piece, 0, 2), 8);
        Check.same(house.cut(piece, 0, 1), 7);
    }

    private static void fourLayers() {
        Gatherhouse house = house();
        int piece = Houses.ready(house, 0, 10);
        house.blow(piece, 0, 7);
        house.pass(8);
        for (int pot : new int[] {1, 2, 1, 2}) {
            house.lay(piece, pot, 1);
            house.pass(15);
        }
        Check.same(house.colour(piece, 0), 9);
        Houses.annealed(house, piece);
        Check.same(house.isFirst(piece), true);
        Check.same(house.price(piece), (12 * 10 * 8 / 50 + 40) * 2);
        Check.same(house.cut(piece, 0, 1), 8);
        Check.same(house.cut(piece, 0, 1), 9);
        Check.same(house.cut(piece, 0, 1), 8);
        Check.same(house.cut(piece, 0, 1), 7);
        Check.unsupported(house, () -> house.cut(piece, 0, 1));
        Check.same(house.layers(piece), 4);
    }

    private static void cutBounds() {
        Gatherhouse house = house();
        Check.index(house, () -> house.cut(0, 0, 1));
        int piece = layered(house);
        Check.index(house, () -> house.cut(piece, 2, 0));
        Check.index(house, () -> house.cut(piece, -1, 1));
        Check.index(house, () -> house.cut(piece, 8, 1));
        Check.argument(house, () -> house.cut(piece, 0, 0));
        Check.argument(house, () -> house.cut(piece, 0, 10));
        Check.argument(house, () -> house.cut(piece, 0, -1));
        Check.unsupported(house, () -> house.cut(piece, 0, 9));
        Check.same(house.cut(piece, 0, 1), 8);
    }

    private static void cutWantsDone() {
        Gatherhouse house = house();
        int onPipe = Houses.ready(house, 0, 10);
        house.lay(onPipe, 1, 3);
        house.pass(15);
        Check.unsupported(house, () -> house.cut(onPipe, 0, 1));
        Check.argument(house, () -> house.cut(onPipe, 0, 10));
        Houses.crack(house, onPipe);
        Check.unsupported(house, () -> house.cut(onPipe, 0, 1));
        house.hours(60);
        int sold = layered(house);
        house.sell(sold);
        Check.unsupported(house, () -> house.cut(sold, 0, 1));
    }

    private static void colourTells() {
        Gatherhouse house = house();
        int piece = Houses.ready(house, 0, 10);
        Check.same(house.colour(piece, 0), 7);
        house.lay(piece, 2, 1);
        Check.same(house.colour(piece, 0), 9);
        house.pass(15);
        house.split(piece, 0);
        Check.same(house.colour(piece, 0), 9);
        Check.same(house.colour(piece, 1), 9);
        house.pass(300);
        Check.same(house.state(piece), 'x');
        Check.same(house.colour(piece, 1), 9);
    }

    private static void colourBounds() {
        Gatherhouse house = house();
        int piece = Houses.ready(house, 1, 10);
        Check.same(house.colour(piece, 0), 8);
        Check.index(house, () -> house.colour(piece, 1));
        Check.index(house, () -> house.colour(piece, -1));
        Check.index(house, () -> house.colour(piece, Integer.MAX_VALUE));
        Check.index(house, () -> house.colour(1, 0));
    }
}
