/** The first example of the document, row by row. */
final class ExampleTests {
    private ExampleTests() {
    }

    static void run() {
        Check.test("the document's first example", ExampleTests::firstExample);
    }

    private static void firstExample() {
        Gatherhouse house = new Gatherhouse();
        Check.same(house.glass(700, 1050, 92, 0), 0);
        Check.same(house.glass(720, 1040, 95, 4), 1);
        Check.same(house.agree(0, 1), true);
        Check.same(house.pot(0), 0);
        Check.same(house.pot(1), 1);
        Check.same(house.charge(0, 300), 300);
        Check.same(house.charge(1, 100), 100);
        Check.same(house.hours(10), 0);
        Check.same(house.of(0, 's'), 10);
        Check.same(house.gather(0, 40), 0);
        Check.same(house.busy('g'), 20);
        Check.same(house.pass(40), 0);
        Check.same(house.time(), 40);
        Check.same(house.heatOf(0), 1020);
        Check.same(house.low(0, true), 1050);
        Check.same(house.blow(0, 0, 5), 20);
        Check.same(house.pass(8), 0);
        Check.same(house.swing(0, 0, 4), 14);
        Check.same(house.pass(6), 0);
        Check.same(house.neck(0, 0, 2), 17);
        Check.same(house.pass(10), 0);
        Check.same(house.split(0, 0), 2);
        Check.same(house.pass(4), 0);
        Check.same(house.lay(0, 1, 3), 1);
        Check.same(house.pass(15), 0);
        Check.same(house.heat(0, 10), 1);
        Check.same(house.pass(10), 0);
        Check.same(house.gather(0, 20), 1);
        Check.same(house.pass(20), 0);
        Check.unsupported(house, () -> house.join(0, 1));
        Check.same(house.shear(0), 1120);
        Check.index(house, () -> house.ring(0, 1, 'w'));
        Check.same(house.rings(0), 1);
        Check.same(house.mass(0), 1120);
        Check.same(house.height(0), 7);
        Check.same(house.layers(0), 1);
        Check.same(house.flaws(0), 0);
        Check.same(house.drop(30), 40);
        Check.unsupported(house, () -> house.crack(0));
        Check.same(house.pass(12), 0);
        secondHalf(house);
    }

    private static void secondHalf(Gatherhouse house) {
        Check.same(house.lehr(), 0);
        Check.unsupported(house, () -> house.hours(40));
        Check.same(house.state(0), 'p');
        Check.same(house.strain(0), 0);
        Check.noElement(house, () -> house.isFirst(0));
        Check.unsupported(house, () -> house.cut(0, 0, 2));
        Check.same(house.colour(0, 0), 4);
        Check.noElement(house, () -> house.set(2, 1, 50));
        Check.same(house.isInSet(0), false);
        Check.same(house.price(0), 32);
        Check.unsupported(house, () -> house.sell(0));
        Check.same(house.takings(), 0);
        Check.same(house.pay('f'), 2);
        Check.same(house.change(1), 94);
        Check.unsupported(house, () -> house.days(1));
        Check.same(house.day(), 0);
        Check.same(house.checksum(), 10453472831L);
        Check.same(house.wholeShare(), 1.0f);
        Check.same(house.meanMass(), 1060.0);
        Check.same(house.isSound(), true);
    }
}
