/** If several exceptions apply, the one that is listed first is thrown. */
final class OrderTests {
    private OrderTests() {
    }

    static void run() {
        Check.test("2 to 7: order of exceptions, glasses and pots", OrderTests::glassesAndPots);
        Check.test("8, 36: order of exceptions, hours and days", OrderTests::hoursAndDays);
        Check.test("13: order of exceptions, gather", OrderTests::gather);
        Check.test("14: order of exceptions, heat", OrderTests::heat);
        Check.test("15, 16, 17: order of exceptions, blow, swing and neck", OrderTests::reshaping);
        Check.test("18, 19, 22: order of exceptions, split, shear and crack", OrderTests::parting);
        Check.test("20: order of exceptions, lay", OrderTests::lay);
        Check.test("21: order of exceptions, join", OrderTests::join);
        Check.test("24, 26, 33, 38: order of exceptions, what pieces tell and cuts", OrderTests::toldAndCut);
        Check.test("40: order of exceptions, set", OrderTests::set);
        Check.test("43: order of exceptions, sell", OrderTests::sell);
    }

    private static void glassesAndPots() {
        Gatherhouse house = new Gatherhouse();
        for (int i = 0; i < 6; i++) {
            house.glass(600, 1100, 100, 0);
        }
        Check.argument(house, () -> house.glass(599, 1100, 100, 0));
        Check.argument(house, () -> house.glass(600, 1101, 100, 0));
        Check.argument(house, () -> house.glass(600, 1100, 49, 0));
        Check.argument(house, () -> house.glass(600, 1100, 100, 10));
        Check.illegalState(house, () -> house.glass(600, 1100, 100, 0));
        Check.index(house, () -> house.charge(0, 0));
        Check.index(house, () -> house.of(0, '?'));
        for (int i = 0; i < 4; i++) {
            house.pot(5);
        }
        Check.index(house, () -> house.pot(6));
        Check.index(house, () -> house.pot(-1));
        Check.illegalState(house, () -> house.pot(5));
        Check.index(house, () -> house.charge(4, 501));
        Check.index(house, () -> house.charge(-1, 0));
        Check.index(house, () -> house.of(4, 'M'));
        Check.argument(house, () -> house.of(3, 'M'));
    }

    private static void hoursAndDays() {
        Gatherhouse house = Houses.open();
        house.gather(0, 20);
        Check.argument(house, () -> house.hours(0));
        Check.argument(house, () -> house.hours(241));
        Check.argument(house, () -> house.days(0));
        Check.argument(house, () -> house.days(61));
        Check.unsupported(house, () -> house.hours(1));
        Check.unsupported(house, () -> house.days(1));
        house.pass(20);
        house.crack(0);
        Check.argument(house, () -> house.hours(0));
        Check.argument(house, () -> house.days(61));
        Check.illegalState(house, () -> house.hours(1));
        Check.illegalState(house, () -> house.days(1));
    }

    private static void gather() {
        Gatherhouse house = Houses.of(1099, 1100, 100);
        for (int i = 0; i < 15; i++) {
            house.gather(0, 20);
            house.pass(20);
        }
        house.pot(0);
        Check.same(house.gather(0, 20), 15);
        Check.index(house, () -> house.gather(2, 9));
        Check.index(house, () -> house.gather(2, 20));
        Check.argument(house, () -> house.gather(0, 9));
        Check.argument(house, () -> house.gather(1, 61));
        Check.unsupported(house, () -> house.gather(0, 20));
        house.pass(20);
        Check.index(house, () -> house.gather(-1, 61));
        Check.argument(house, () -> house.gather(0, 61));
        Check.unsupported(house, () -> house.gather(1, 20));
        Check.illegalState(house, () -> house.gather(0, 20));
        house.charge(0, 1);
        Check.unsupported(house, () -> house.gather(0, 20));
    }

    private static void heat() {
        Gatherhouse house = Houses.open();
        house.gather(0, 40);
        Check.index(house, () -> house.heat(1, 61));
        Check.argument(house, () -> house.heat(0, 61));
        Check.unsupported(house, () -> house.heat(0, 60));
        house.pass(20);
        house.heat(0, 60);
        Check.index(house, () -> house.heat(1, 1));
        Check.argument(house, () -> house.heat(0, 0));
        house.pass(2);
        int second = Houses.ready(house, 0, 40);
        house.heat(second, 60);
        house.pass(2);
        int third = Houses.ready(house, 0, 40);
        Check.index(house, () -> house.heat(third + 1, 0));
        Check.argument(house, () -> house.heat(third, 0));
        Check.unsupported(house, () -> house.heat(third, 1));
    }

    private static void reshaping() {
        Gatherhouse house = Houses.open();
        house.gather(0, 40);
        reshapingRefused(house);
        house.pass(20);
        house.crack(0);
        reshapingRefused(house);
        Gatherhouse cold = Houses.open();
        cold.gather(0, 40);
        Check.same(cold.pass(300), 1);
        reshapingRefused(cold);
    }

    private static void reshapingRefused(Gatherhouse house) {
        for (int wrong : new int[] {0, 31}) {
            Check.index(house, () -> house.blow(1, 0, wrong));
            Check.index(house, () -> house.swing(1, 0, wrong));
            Check.index(house, () -> house.neck(1, 0, wrong));
            Check.index(house, () -> house.blow(0, 1, wrong));
            Check.index(house, () -> house.swing(0, 1, wrong));
            Check.index(house, () -> house.neck(0, 1, wrong));
            Check.argument(house, () -> house.blow(0, 0, wrong));
            Check.argument(house, () -> house.swing(0, 0, wrong));
            Check.argument(house, () -> house.neck(0, 0, wrong));
        }
        Check.index(house, () -> house.blow(0, 1, 1));
        Check.index(house, () -> house.swing(0, -1, 1));
        Check.index(house, () -> house.neck(0, 8, 1));
        Check.unsupported(house, () -> house.blow(0, 0, 1));
        Check.unsupported(house, () -> house.swing(0, 0, 1));
        Check.unsupported(house, () -> house.neck(0, 0, 1));
    }

    private static void parting() {
        Gatherhouse house = Houses.open();
        house.gather(0, 40);
        partingRefused(house);
        house.pass(300);
        Check.same(house.state(0), 'x');
        partingRefused(house);
    }

    private static void partingRefused(Gatherhouse house) {
        Check.index(house, () -> house.split(1, 0));
        Check.index(house, () -> house.split(0, 1));
        Check.index(house, () -> house.split(0, -1));
        Check.index(house, () -> house.shear(1));
        Check.index(house, () -> house.crack(1));
        Check.unsupported(house, () -> house.split(0, 0));
        Check.unsupported(house, () -> house.shear(0));
        Check.unsupported(house, () -> house.crack(0));
    }

    private static void lay() {
        Gatherhouse house = Houses.open();
        house.gather(0, 40);
        layRefused(house);
        house.pass(300);
        Check.same(house.state(0), 'x');
        layRefused(house);
    }

    private static void layRefused(Gatherhouse house) {
        Check.index(house, () -> house.lay(1, 1, 10));
        Check.index(house, () -> house.lay(1, 0, 10));
        Check.index(house, () -> house.lay(0, 1, 10));
        Check.index(house, () -> house.lay(0, 1, 1));
        Check.argument(house, () -> house.lay(0, 0, 10));
        Check.argument(house, () -> house.lay(0, 0, 0));
        Check.unsupported(house, () -> house.lay(0, 0, 1));
    }

    private static void join() {
        Gatherhouse house = Houses.open();
        house.gather(0, 40);
        Check.index(house, () -> house.join(1, 1));
        Check.index(house, () -> house.join(0, 1));
        Check.index(house, () -> house.join(1, 0));
        Check.argument(house, () -> house.join(0, 0));
        house.pass(20);
        Check.argument(house, () -> house.join(0, 0));
        house.gather(0, 40);
        Check.index(house, () -> house.join(0, 2));
        Check.argument(house, () -> house.join(1, 1));
        Check.unsupported(house, () -> house.join(0, 1));
        house.pass(300);
        Check.index(house, () -> house.join(2, 0));
        Check.argument(house, () -> house.join(1, 1));
        Check.unsupported(house, () -> house.join(0, 1));
    }

    private static void toldAndCut() {
        Gatherhouse house = Houses.open();
        house.gather(0, 40);
        Check.index(house, () -> house.ring(1, 0, '?'));
        Check.index(house, () -> house.ring(0, 1, '?'));
        Check.argument(house, () -> house.ring(0, 0, '?'));
        Check.index(house, () -> house.cut(1, 0, 10));
        Check.index(house, () -> house.cut(0, 1, 10));
        Check.index(house, () -> house.cut(0, 1, 1));
        Check.argument(house, () -> house.cut(0, 0, 10));
        Check.argument(house, () -> house.cut(0, 0, 0));
        Check.unsupported(house, () -> house.cut(0, 0, 1));
        Check.index(house, () -> house.heatOf(1));
        Check.index(house, () -> house.isFirst(1));
        Check.noElement(house, () -> house.isFirst(0));
        house.pass(300);
        Check.noElement(house, () -> house.heatOf(0));
        Check.argument(house, () -> house.cut(0, 0, 10));
        Check.unsupported(house, () -> house.cut(0, 0, 9));
    }

    private static void set() {
        Gatherhouse house = new Gatherhouse();
        setRefused(house);
        Check.noElement(house, () -> house.set(2, 1, 0));
        Gatherhouse two = Houses.open();
        Houses.thin(two, 0);
        Houses.thin(two, 5);
        setRefused(two);
        Check.noElement(two, () -> two.set(3, 1, 0));
        Check.noElement(two, () -> two.set(2, 2, 0));
        Check.unsupported(two, () -> two.set(2, 1, 4));
    }

    private static void setRefused(Gatherhouse house) {
        Check.argument(house, () -> house.set(1, 1, 0));
        Check.argument(house, () -> house.set(7, 1, 0));
        Check.argument(house, () -> house.set(2, 0, 0));
        Check.argument(house, () -> house.set(2, 9, 0));
        Check.argument(house, () -> house.set(2, 1, -1));
        Check.argument(house, () -> house.set(2, 1, 100));
    }

    private static void sell() {
        Gatherhouse house = Houses.open();
        house.gather(0, 40);
        Check.index(house, () -> house.sell(1));
        Check.unsupported(house, () -> house.sell(0));
    }
}
