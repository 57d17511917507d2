/** Promises 21 and 22: join and crack. */
final class JoinTests {
    private JoinTests() {
    }

    static void run() {
        Check.test("21: join puts rings behind", JoinTests::joinPutsRingsBehind);
        Check.test("21: the other piece is told as it was", JoinTests::theOtherStaysTold);
        Check.test("21: join sums flaws", JoinTests::joinSumsFlaws);
        Check.test("21: join bounds", JoinTests::joinBounds);
        Check.test("21: join wants both roles and both pieces", JoinTests::joinWantsAll);
        Check.test("21: join wants glasses that agree", JoinTests::joinWantsAgreement);
        Check.test("21: join wants the heat of all ranges", JoinTests::joinWantsHeat);
        Check.test("21: the other one has no layers", JoinTests::joinWantsNoLayers);
        Check.test("21: at most eight rings", JoinTests::eightRings);
        Check.test("22: crack puts into the lehr", JoinTests::crackPutsIntoLehr);
        Check.test("22: the lehr takes six", JoinTests::lehrTakesSix);
    }

    private static void joinPutsRingsBehind() {
        Gatherhouse house = Houses.ofTwo(100, 103);
        int one = Houses.ready(house, 0, 40);
        house.lay(one, 0, 2);
        house.pass(15);
        int two = Houses.ready(house, 1, 30);
        house.split(two, 0);
        house.pass(4);
        house.blow(two, 1, 5);
        house.pass(8);
        int heat = house.heatOf(one);
        Check.same(house.join(one, two), 3);
        Check.same(house.heatOf(one), heat);
        Check.same(house.rings(one), 3);
        Check.same(house.ring(one, 0, 'w'), 42);
        Check.same(house.ring(one, 1, 'r'), 5);
        Check.same(house.ring(one, 2, 'r'), 10);
        Check.same(house.ring(one, 2, 'w'), 15);
        Check.same(house.layers(one), 1);
        Check.same(house.colour(one, 0), 1);
        Check.same(house.colour(one, 1), 2);
        Check.same(house.state(two), 'x');
        Check.unsupported(house, () -> house.swing(one, 0, 1));
        house.pass(12);
        Check.same(house.swing(one, 2, 1), 12);
    }

    private static void theOtherStaysTold() {
        Gatherhouse house = Houses.open();
        int one = Houses.ready(house, 0, 40);
        int two = Houses.ready(house, 0, 30);
        house.join(one, two);
        house.pass(12);
        house.blow(one, 1, 5);
        house.pass(8);
        house.lay(one, 0, 3);
        house.pass(15);
        Check.same(house.ring(one, 1, 'r'), 10);
        Check.same(house.rings(two), 1);
        Check.same(house.ring(two, 0, 'r'), 5);
        Check.same(house.ring(two, 0, 'w'), 30);
        Check.same(house.mass(two), 1500);
        Check.same(house.height(two), 10);
        Check.same(house.layers(two), 0);
        Check.noElement(house, () -> house.heatOf(two));
        Check.noElement(house, () -> house.isFirst(two));
        Check.unsupported(house, () -> house.join(one, two));
        Check.unsupported(house, () -> house.join(two, one));
    }

    private static void joinSumsFlaws() {
        Gatherhouse house = new Gatherhouse();
        house.glass(600, 1100, 100, 1);
        house.pot(0);
        house.pot(0);
        Houses.fill(house, 0);
        house.hours(50);
        house.change(1);
        Houses.fill(house, 1);
        house.hours(100);
        int one = Houses.ready(house, 0, 40);
        int two = Houses.ready(house, 1, 40);
        Check.same(house.flaws(one), 3);
        Check.same(house.flaws(two), 2);
        house.join(one, two);
        Check.same(house.flaws(one), 5);
        Check.same(house.flaws(two), 2);
    }

    private static void joinBounds() {
        Gatherhouse house = Houses.open();
        Check.index(house, () -> house.join(0, 0));
        int one = Houses.ready(house, 0, 40);
        Check.index(house, () -> house.join(one, 1));
        Check.index(house, () -> house.join(1, one));
        Check.index(house, () -> house.join(-1, -1));
        Check.index(house, () -> house.join(one, Integer.MAX_VALUE));
        Check.argument(house, () -> house.join(one, one));
        house.pass(300);
        Check.argument(house, () -> house.join(one, one));
    }

    private static void joinWantsAll() {
        Gatherhouse house = Houses.of(600, 1050, 100);
        int one = Houses.ready(house, 0, 40);
        house.pass(10);
        int two = house.gather(0, 40);
        house.pass(10);
        Check.unsupported(house, () -> house.join(one, two));
        Check.unsupported(house, () -> house.join(two, one));
        house.pass(10);
        Check.same(house.heatOf(two), 1060);
        Check.unsupported(house, () -> house.join(one, two));
        Check.unsupported(house, () -> house.join(two, one));
        house.pass(5);
        int three = house.gather(0, 40);
        house.pass(25);
        house.blow(three, 0, 1);
        Check.unsupported(house, () -> house.join(one, two));
        house.pass(8);
        house.swing(three, 0, 1);
        Check.unsupported(house, () -> house.join(one, two));
        house.pass(6);
        house.crack(three);
        Check.unsupported(house, () -> house.join(one, three));
        Check.unsupported(house, () -> house.join(three, one));
        house.pass(3);
        Check.unsupported(house, () -> house.join(one, three));
        Check.unsupported(house, () -> house.join(three, one));
        Check.same(house.rings(one), 1);
        Check.same(house.join(one, two), 2);
        Check.unsupported(house, () -> house.crack(one));
    }

    private static void joinWantsAgreement() {
        Gatherhouse house = new Gatherhouse();
        house.glass(600, 1100, 100, 0);
        house.glass(600, 1100, 104, 1);
        house.glass(600, 1100, 96, 2);
        for (int i = 0; i < 3; i++) {
            house.pot(i);
            house.charge(i, 500);
        }
        house.hours(10);
        int one = Houses.ready(house, 0, 40);
        int two = Houses.ready(house, 1, 40);
        int three = Houses.ready(house, 2, 40);
        Check.unsupported(house, () -> house.join(two, three));
        Check.same(house.join(one, two), 2);
        house.pass(12);
        Check.unsupported(house, () -> house.join(one, three));
        Check.unsupported(house, () -> house.join(three, one));
        Check.same(house.state(three), 'p');
        int four = Houses.ready(house, 2, 40);
        Check.same(house.join(three, four), 2);
        house.pass(12);
        house.shear(one);
        house.pass(5);
        Check.unsupported(house, () -> house.join(one, three));
    }

    private static void joinWantsHeat() {
        Gatherhouse house = new Gatherhouse();
        house.glass(600, 1100, 100, 0);
        house.glass(900, 1040, 100, 1);
        house.pot(0);
        house.pot(1);
        Houses.fill(house, 0);
        Houses.fill(house, 1);
        house.hours(10);
        int narrow = Houses.ready(house, 1, 40);
        int wide = Houses.ready(house, 0, 40);
        house.pass(8);
        Check.same(house.heatOf(narrow), 1004);
        Check.same(house.heatOf(wide), 1044);
        Check.unsupported(house, () -> house.join(wide, narrow));
        house.pass(2);
        Check.same(house.join(wide, narrow), 2);
        Check.same(house.low(wide, false), 900);
        Check.same(house.low(wide, true), 1040);
        Check.same(house.low(narrow, true), 1040);
        house.pass(70);
        Check.same(house.heatOf(wide), 900);
        Check.same(house.pass(1), 1);
        theHeatOfTheOtherOneIsFree();
    }

    private static void theHeatOfTheOtherOneIsFree() {
        Gatherhouse house = new Gatherhouse();
        house.glass(600, 1100, 100, 0);
        house.glass(900, 1040, 100, 1);
        house.pot(0);
        house.pot(1);
        Houses.fill(house, 0);
        Houses.fill(house, 1);
        house.hours(10);
        int wide = Houses.ready(house, 0, 40);
        house.pass(85);
        int narrow = Houses.ready(house, 1, 40);
        house.pass(10);
        Check.same(house.heatOf(wide), 830);
        Check.same(house.heatOf(narrow), 1040);
        Check.unsupported(house, () -> house.join(wide, narrow));
        Check.same(house.join(narrow, wide), 2);
        Check.same(house.heatOf(narrow), 1040);
        Check.same(house.low(narrow, false), 900);
    }

    private static void joinWantsNoLayers() {
        Gatherhouse house = Houses.open();
        int one = Houses.ready(house, 0, 40);
        int two = Houses.ready(house, 0, 40);
        house.lay(two, 0, 1);
        house.pass(15);
        Check.unsupported(house, () -> house.join(one, two));
        Check.same(house.state(two), 'p');
        Check.same(house.join(two, one), 2);
        Check.same(house.layers(two), 1);
    }

    private static void eightRings() {
        Gatherhouse house = Houses.open();
        int one = Houses.ready(house, 0, 40);
        int two = Houses.ready(house, 0, 40);
        for (int piece : new int[] {one, two}) {
            house.split(piece, 0);
            house.pass(4);
            house.split(piece, 0);
            house.pass(4);
            house.split(piece, 2);
            house.pass(4);
        }
        int three = Houses.ready(house, 0, 40);
        Check.same(house.join(one, two), 8);
        house.pass(12);
        Check.same(house.height(one), 20);
        Check.unsupported(house, () -> house.join(one, three));
        Check.unsupported(house, () -> house.join(three, one));
        Check.same(house.rings(one), 8);
        house.shear(one);
        house.pass(5);
        Check.same(house.join(one, three), 8);
    }

    private static void crackPutsIntoLehr() {
        Gatherhouse house = Houses.open();
        Check.index(house, () -> house.crack(0));
        int piece = Houses.ready(house, 0, 40);
        Check.index(house, () -> house.crack(1));
        Check.index(house, () -> house.crack(-1));
        Check.same(house.crack(piece), 1);
        Check.same(house.state(piece), 'l');
        Check.same(house.lehr(), 1);
        Check.same(house.heatOf(piece), 1060);
        house.pass(600);
        Check.same(house.heatOf(piece), 1060);
        Check.same(house.state(piece), 'l');
        Check.unsupported(house, () -> house.crack(piece));
    }

    private static void lehrTakesSix() {
        Gatherhouse house = Houses.open();
        for (int i = 1; i <= 6; i++) {
            Check.same(house.crack(Houses.ready(house, 0, 20)), i);
            house.pass(3);
        }
        int seventh = Houses.ready(house, 0, 20);
        Check.unsupported(house, () -> house.crack(seventh));
        Check.same(house.state(seventh), 'p');
        Check.same(house.lehr(), 6);
        house.pass(300);
        house.drop(200);
        Check.same(house.hours(5), 6);
        Check.same(house.lehr(), 0);
        Check.same(house.crack(Houses.ready(house, 0, 20)), 1);
    }
}
