/** Promises 1 to 7: a new house, glasses and pots. */
final class PotTests {
    private PotTests() {
    }

    static void run() {
        Check.test("1: a new object has nothing", PotTests::aNewObject);
        Check.test("2: glass numbers and bounds", PotTests::glassBounds);
        Check.test("2: at most six glasses", PotTests::sixGlasses);
        Check.test("3: agree by ranges", PotTests::agreeByRanges);
        Check.test("3: agree by expansions", PotTests::agreeByExpansions);
        Check.test("3: agree wants glasses", PotTests::agreeWantsGlasses);
        Check.test("4: pot numbers and bounds", PotTests::potBounds);
        Check.test("5: charge adds mass and seeds", PotTests::chargeAdds);
        Check.test("5: charge bounds", PotTests::chargeBounds);
        Check.test("6: change", PotTests::changeEmpties);
        Check.test("7: of", PotTests::ofTells);
        Check.test("7: of refuses", PotTests::ofRefuses);
    }

    private static void aNewObject() {
        Gatherhouse house = new Gatherhouse();
        Check.same(house.time(), 0);
        Check.same(house.day(), 0);
        Check.same(house.lehr(), 0);
        Check.same(house.takings(), 0);
        Check.same(house.checksum(), 7L);
        Check.same(house.isSound(), true);
        for (char role : "gsfb".toCharArray()) {
            Check.same(house.busy(role), 0);
            Check.same(house.pay(role), 0);
        }
        Check.index(house, () -> house.agree(0, 0));
        Check.index(house, () -> house.of(0, 'm'));
        Check.index(house, () -> house.state(0));
        Check.noElement(house, house::wholeShare);
        Check.noElement(house, house::meanMass);
        Check.same(house.drop(40), 40);
    }

    private static void glassBounds() {
        Gatherhouse house = new Gatherhouse();
        Check.argument(house, () -> house.glass(599, 1100, 100, 0));
        Check.argument(house, () -> house.glass(1101, 1101, 100, 0));
        Check.argument(house, () -> house.glass(700, 699, 100, 0));
        Check.argument(house, () -> house.glass(700, 1101, 100, 0));
        Check.argument(house, () -> house.glass(700, 1000, 49, 0));
        Check.argument(house, () -> house.glass(700, 1000, 151, 0));
        Check.argument(house, () -> house.glass(700, 1000, 100, -1));
        Check.argument(house, () -> house.glass(700, 1000, 100, 10));
        Check.argument(house, () -> house.glass(Integer.MIN_VALUE, Integer.MAX_VALUE, 100, 0));
        Check.index(house, () -> house.agree(0, 0));
        Check.same(house.glass(600, 1100, 50, 0), 0);
        Check.same(house.glass(600, 600, 150, 9), 1);
        Check.same(house.glass(1100, 1100, 150, 9), 2);
    }

    private static void sixGlasses() {
        Gatherhouse house = new Gatherhouse();
        for (int i = 0; i < 6; i++) {
            Check.same(house.glass(600, 1100, 100, i), i);
        }
        Check.illegalState(house, () -> house.glass(600, 1100, 100, 0));
        Check.argument(house, () -> house.glass(599, 1100, 100, 0));
        Check.same(house.agree(0, 5), true);
        Check.index(house, () -> house.agree(0, 6));
    }

    private static void agreeByRanges() {
        Gatherhouse house = new Gatherhouse();
        house.glass(700, 900, 100, 0);
        house.glass(800, 1000, 100, 0);
        house.glass(801, 1000, 100, 0);
        house.glass(600, 800, 100, 0);
        house.glass(600, 799, 100, 0);
        house.glass(750, 849, 100, 0);
        Check.same(house.agree(0, 1), true);
        Check.same(house.agree(1, 0), true);
        Check.same(house.agree(0, 2), false);
        Check.same(house.agree(2, 0), false);
        Check.same(house.agree(0, 3), true);
        Check.same(house.agree(0, 4), false);
        Check.same(house.agree(3, 2), false);
        Check.same(house.agree(0, 0), true);
        Check.same(house.agree(5, 5), false);
        Check.same(house.agree(0, 5), false);
    }

    private static void agreeByExpansions() {
        Gatherhouse house = new Gatherhouse();
        house.glass(700, 900, 100, 0);
        house.glass(700, 900, 105, 0);
        house.glass(700, 900, 106, 0);
        house.glass(700, 900, 95, 0);
        house.glass(700, 900, 94, 0);
        Check.same(house.agree(0, 1), true);
        Check.same(house.agree(0, 2), false);
        Check.same(house.agree(0, 3), true);
        Check.same(house.agree(0, 4), false);
        Check.same(house.agree(2, 1), true);
        Check.same(house.agree(4, 0), false);
    }

    private static void agreeWantsGlasses() {
        Gatherhouse house = new Gatherhouse();
        house.glass(700, 900, 100, 0);
        Check.index(house, () -> house.agree(0, 1));
        Check.index(house, () -> house.agree(1, 0));
        Check.index(house, () -> house.agree(-1, 0));
        Check.index(house, () -> house.agree(0, Integer.MIN_VALUE));
        Check.index(house, () -> house.agree(0, Integer.MAX_VALUE));
    }

    private static void potBounds() {
        Gatherhouse house = new Gatherhouse();
        Check.index(house, () -> house.pot(0));
        house.glass(700, 900, 100, 0);
        Check.index(house, () -> house.pot(1));
        Check.index(house, () -> house.pot(-1));
        for (int i = 0; i < 4; i++) {
            Check.same(house.pot(0), i);
            Check.same(house.of(i, 'm'), 0);
        }
        Check.illegalState(house, () -> house.pot(0));
        Check.index(house, () -> house.pot(1));
    }

    private static void chargeAdds() {
        Gatherhouse house = new Gatherhouse();
        house.glass(600, 1100, 100, 0);
        house.pot(0);
        house.pot(0);
        Check.same(house.charge(1, 1), 1);
        Check.same(house.of(1, 's'), 30);
        Check.same(house.of(0, 's'), 0);
        house.hours(4);
        Check.same(house.of(1, 's'), 22);
        Check.same(house.charge(1, 500), 501);
        Check.same(house.of(1, 's'), 30);
        Check.same(house.of(1, 'a'), 4);
        Check.same(house.charge(1, 499), 1000);
        Check.same(house.of(1, 'm'), 1000);
        Check.same(house.of(0, 'm'), 0);
    }

    private static void chargeBounds() {
        Gatherhouse house = new Gatherhouse();
        Check.index(house, () -> house.charge(0, 0));
        house.glass(600, 1100, 100, 0);
        house.pot(0);
        Check.index(house, () -> house.charge(1, 10));
        Check.index(house, () -> house.charge(-1, 10));
        Check.argument(house, () -> house.charge(0, 0));
        Check.argument(house, () -> house.charge(0, -1));
        Check.argument(house, () -> house.charge(0, 501));
        Check.argument(house, () -> house.charge(0, Integer.MAX_VALUE));
        Check.same(house.of(0, 's'), 0);
        house.charge(0, 500);
        house.charge(0, 400);
        house.hours(1);
        Check.argument(house, () -> house.charge(0, 0));
        Check.argument(house, () -> house.charge(0, -1));
        Check.argument(house, () -> house.charge(0, 101));
        Check.same(house.of(0, 'm'), 900);
        Check.same(house.of(0, 's'), 28);
        Check.same(house.charge(0, 100), 1000);
        Check.argument(house, () -> house.charge(0, 1));
    }

    private static void changeEmpties() {
        Gatherhouse house = Houses.open();
        house.hours(42);
        Check.same(house.of(0, 't'), 1);
        Check.same(house.change(0), 1000);
        Check.same(house.of(0, 'm'), 0);
        Check.same(house.of(0, 't'), 0);
        Check.same(house.of(0, 'a'), 0);
        Check.same(house.change(0), 0);
        house.charge(0, 7);
        house.hours(4);
        Check.same(house.change(0), 7);
        Check.same(house.of(0, 's'), 22);
        Check.index(house, () -> house.change(1));
        Check.index(house, () -> house.change(-1));
    }

    private static void ofTells() {
        Gatherhouse house = Houses.open();
        Check.same(house.of(0, 'm'), 1000);
        Check.same(house.of(0, 's'), 10);
        Check.same(house.of(0, 't'), 0);
        Check.same(house.of(0, 'a'), 10);
        house.hours(90);
        Check.same(house.of(0, 's'), 0);
        Check.same(house.of(0, 't'), 2);
        Check.same(house.of(0, 'a'), 100);
        Houses.ready(house, 0, 60);
        Check.same(house.of(0, 'm'), 940);
    }

    private static void ofRefuses() {
        Gatherhouse house = Houses.open();
        Check.index(house, () -> house.of(1, 'm'));
        Check.index(house, () -> house.of(-1, '?'));
        Check.index(house, () -> house.of(4, 'm'));
        Check.argument(house, () -> house.of(0, 'M'));
        Check.argument(house, () -> house.of(0, (char) 0));
        Check.argument(house, () -> house.of(0, (char) 65535));
    }
}
