import java.util.function.Supplier;

/** For each number of a thing that a call takes: the first and the last one there, and the ones beside them. */
final class PlaceTests {
    private PlaceTests() {
    }

    static void run() {
        Check.test("1, 3, 4: a house without glasses has none", PlaceTests::noGlasses);
        Check.test("1, 5, 6, 7, 13, 20: a house without pots has none", PlaceTests::noPots);
        Check.test("1, 14 to 33, 38 to 43: a house without pieces has none", PlaceTests::noPieces);
        Check.test("3, 4: glasses of one, of two and of six", PlaceTests::glasses);
        Check.test("5, 6, 7, 13, 20: pots of one, of two and of four", PlaceTests::pots);
        Check.test("23 to 32, 41, 42: pieces that are told", PlaceTests::toldPieces);
        Check.test("14 to 20, 22: pieces that are worked on", PlaceTests::workedPieces);
        Check.test("21: pieces that are joined", PlaceTests::joinedPieces);
        Check.test("33, 38, 39, 43: pieces that are done", PlaceTests::donePieces);
        Check.test("15 to 18, 26, 39: rings on a pipe, of one, of three and of eight", PlaceTests::rings);
        Check.test("26, 38, 39: rings of a piece that is done", PlaceTests::ringsOfDone);
        Check.test("15 to 18, 26, 39: a ring that was sheared away is none", PlaceTests::shearedRing);
    }

    /** All below count are there, each tried in a house of its own; those beside them are not. */
    private static void places(Supplier<Gatherhouse> fresh, int count, BoundTests.Call call) {
        for (int place = 0; place < count; place++) {
            call.run(fresh.get(), place);
        }
        Gatherhouse house = fresh.get();
        for (int none : new int[] {-1, count, 16, Integer.MIN_VALUE, Integer.MAX_VALUE}) {
            Check.index(house, () -> call.run(house, none));
        }
    }

    private static void noGlasses() {
        places(Gatherhouse::new, 0, (h, n) -> h.agree(n, n));
        places(Gatherhouse::new, 0, (h, n) -> h.pot(n));
    }

    private static void noPots() {
        Supplier<Gatherhouse> fresh = () -> {
            Gatherhouse house = new Gatherhouse();
            house.glass(600, 1100, 100, 0);
            return house;
        };
        places(fresh, 0, (h, n) -> h.charge(n, 1));
        places(fresh, 0, (h, n) -> h.change(n));
        places(fresh, 0, (h, n) -> h.of(n, 'm'));
        places(fresh, 0, (h, n) -> h.gather(n, 10));
        places(fresh, 0, (h, n) -> h.lay(0, n, 1));
    }

    private static void noPieces() {
        for (BoundTests.Call call : toldCalls()) {
            places(Houses::open, 0, call);
        }
        for (BoundTests.Call call : workCalls()) {
            places(Houses::open, 0, call);
        }
        for (BoundTests.Call call : doneCalls()) {
            places(Houses::open, 0, call);
        }
        places(Houses::open, 0, (h, n) -> h.join(n, 0));
        places(Houses::open, 0, (h, n) -> h.join(0, n));
    }

    private static Gatherhouse ofGlasses(int count) {
        Gatherhouse house = new Gatherhouse();
        for (int i = 0; i < count; i++) {
            Check.same(house.glass(600, 1100, 100, i), i);
        }
        return house;
    }

    private static void glasses() {
        for (int count : new int[] {1, 2, 6}) {
            places(() -> ofGlasses(count), count, (h, n) -> h.agree(n, 0));
            places(() -> ofGlasses(count), count, (h, n) -> h.agree(0, n));
            places(() -> ofGlasses(count), count, (h, n) -> h.pot(n));
        }
    }

    private static Gatherhouse ofPots(int count) {
        Gatherhouse house = ofGlasses(1);
        for (int i = 0; i < count; i++) {
            Check.same(house.pot(0), i);
            house.charge(i, 100);
        }
        house.hours(10);
        Houses.ready(house, 0, 40);
        return house;
    }

    private static void pots() {
        for (int count : new int[] {1, 2, 4}) {
            places(() -> ofPots(count), count, (h, n) -> h.charge(n, 1));
            places(() -> ofPots(count), count, (h, n) -> h.change(n));
            places(() -> ofPots(count), count, (h, n) -> h.of(n, 'm'));
            places(() -> ofPots(count), count, (h, n) -> h.gather(n, 10));
            places(() -> ofPots(count), count, (h, n) -> h.lay(0, n, 1));
        }
    }

    /** So many pieces of two rings on pipes, all of which can be worked on. */
    private static Gatherhouse onPipes(int count) {
        Gatherhouse house = Houses.open();
        for (int i = 0; i < count; i++) {
            Check.same(Houses.ready(house, 0, 20), i);
            house.split(i, 0);
        }
        house.pass(4);
        return house;
    }

    private static BoundTests.Call[] toldCalls() {
        return new BoundTests.Call[] {
            (h, n) -> h.state(n), (h, n) -> h.heatOf(n), (h, n) -> h.rings(n), (h, n) -> h.ring(n, 0, 'r'),
            (h, n) -> h.mass(n), (h, n) -> h.height(n), (h, n) -> h.layers(n), (h, n) -> h.flaws(n),
            (h, n) -> h.low(n, true), (h, n) -> h.low(n, false), (h, n) -> h.strain(n), (h, n) -> h.colour(n, 0),
            (h, n) -> h.isInSet(n), (h, n) -> h.price(n),
        };
    }

    private static BoundTests.Call[] workCalls() {
        return new BoundTests.Call[] {
            (h, n) -> h.heat(n, 1), (h, n) -> h.blow(n, 0, 1), (h, n) -> h.swing(n, 0, 1),
            (h, n) -> h.neck(n, 0, 1), (h, n) -> h.split(n, 0), (h, n) -> h.shear(n),
            (h, n) -> h.lay(n, 0, 1), (h, n) -> h.crack(n),
        };
    }

    private static BoundTests.Call[] doneCalls() {
        return new BoundTests.Call[] {
            (h, n) -> h.isFirst(n), (h, n) -> h.cut(n, 0, 1), (h, n) -> h.colour(n, 0), (h, n) -> h.sell(n),
        };
    }

    private static void toldPieces() {
        for (BoundTests.Call call : toldCalls()) {
            for (int count : new int[] {1, 2, 4}) {
                places(() -> onPipes(count), count, call);
            }
            places(PlaceTests::sixteen, 16, call);
        }
    }

    /** Sixteen are the most: six in the lehr, the others not yet cold. */
    private static Gatherhouse sixteen() {
        Gatherhouse house = Houses.open();
        for (int i = 0; i < 16; i++) {
            Check.same(Houses.ready(house, 0, 20), i);
            if (i < 6) {
                Check.same(house.crack(i), i + 1);
            }
        }
        return house;
    }

    private static void workedPieces() {
        for (BoundTests.Call call : workCalls()) {
            for (int count : new int[] {1, 2, 4}) {
                places(() -> onPipes(count), count, call);
            }
        }
    }

    private static void joinedPieces() {
        Gatherhouse house = onPipes(3);
        for (int none : new int[] {-1, 3, 16, Integer.MIN_VALUE, Integer.MAX_VALUE}) {
            Check.index(house, () -> house.join(none, 0));
            Check.index(house, () -> house.join(0, none));
            Check.index(house, () -> house.join(none, 2));
            Check.index(house, () -> house.join(2, none));
            Check.index(house, () -> house.join(none, none));
        }
        Check.same(house.join(2, 0), 4);
        Check.same(onPipes(3).join(0, 2), 4);
    }

    private static Gatherhouse done(int count) {
        Gatherhouse house = Houses.ofTwo(100, 100);
        for (int i = 0; i < count; i++) {
            Check.same(Houses.thinOnPipe(house, 0), i);
            house.lay(i, 1, 1);
            house.pass(15);
            Houses.crack(house, i);
        }
        house.drop(10);
        Check.same(house.hours(110), count);
        return house;
    }

    private static void donePieces() {
        for (BoundTests.Call call : doneCalls()) {
            for (int count : new int[] {1, 2, 6}) {
                places(() -> done(count), count, call);
            }
        }
    }

    private static Gatherhouse ofRings(int count) {
        Gatherhouse house = Houses.open();
        int piece = Houses.ready(house, 0, 40);
        house.swing(piece, 0, 30);
        house.pass(6);
        for (int made = 1; made < count; made++) {
            house.split(piece, made % 2 == 0 ? made - 1 : 0);
            house.pass(4);
        }
        Check.same(house.rings(piece), count);
        return house;
    }

    private static void rings() {
        for (int count : new int[] {1, 3, 8}) {
            places(() -> ofRings(count), count, (h, n) -> h.ring(0, n, 'h'));
            places(() -> ofRings(count), count, (h, n) -> h.blow(0, n, 1));
            places(() -> ofRings(count), count, (h, n) -> h.swing(0, n, 1));
            places(() -> ofRings(count), count, (h, n) -> h.neck(0, n, 1));
            places(() -> ofRings(count), count, (h, n) -> h.colour(0, n));
        }
        places(() -> ofRings(1), 1, (h, n) -> h.split(0, n));
        places(() -> ofRings(3), 3, (h, n) -> h.split(0, n));
        places(() -> ofRings(7), 7, (h, n) -> h.ring(0, n, 'h'));
    }

    private static Gatherhouse doneOfRings(int count) {
        Gatherhouse house = Houses.ofTwo(100, 100);
        int piece = Houses.thinOnPipe(house, 0);
        for (int made = 1; made < count; made++) {
            house.split(piece, made % 2 == 0 ? 1 : 0);
            house.pass(4);
        }
        house.lay(piece, 1, 1);
        house.pass(15);
        Houses.annealed(house, piece);
        Check.same(house.rings(piece), count);
        Check.same(house.state(piece), 'd');
        return house;
    }

    private static void ringsOfDone() {
        for (int count : new int[] {1, 2, 3}) {
            places(() -> doneOfRings(count), count, (h, n) -> h.ring(0, n, 'w'));
            places(() -> doneOfRings(count), count, (h, n) -> h.cut(0, n, 1));
            places(() -> doneOfRings(count), count, (h, n) -> h.colour(0, n));
        }
    }

    private static Gatherhouse sheared() {
        Gatherhouse house = ofRings(3);
        house.shear(0);
        house.pass(5);
        return house;
    }

    private static void shearedRing() {
        places(PlaceTests::sheared, 2, (h, n) -> h.ring(0, n, 'h'));
        places(PlaceTests::sheared, 2, (h, n) -> h.colour(0, n));
        places(PlaceTests::sheared, 2, (h, n) -> h.blow(0, n, 1));
        places(PlaceTests::sheared, 2, (h, n) -> h.swing(0, n, 1));
        places(PlaceTests::sheared, 2, (h, n) -> h.neck(0, n, 1));
        places(PlaceTests::sheared, 2, (h, n) -> h.split(0, n));
    }
}
