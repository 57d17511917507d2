/** Promises 8 to 12: hours, seconds and roles. */
final class TimeTests {
    private TimeTests() {
    }

    static void run() {
        Check.test("8: hours take seeds and age pots", TimeTests::hoursAgePots);
        Check.test("8: hours bring pieces out", TimeTests::hoursBringPiecesOut);
        Check.test("8: hours bounds", TimeTests::hoursBounds);
        Check.test("8: hours want empty pipes, then idle roles", TimeTests::hoursWantRest);
        Check.test("8: each busy role hinders hours and days", TimeTests::eachRoleHinders);
        Check.test("8: no seconds go by in hours", TimeTests::hoursAreNoSeconds);
        Check.test("9: pass cools", TimeTests::passCools);
        Check.test("9: one thin wall of several cools faster", TimeTests::oneThinWall);
        Check.test("9: pass counts pieces that are no more", TimeTests::passLosesPieces);
        Check.test("9: a piece at its greatest low stays", TimeTests::lowIsStillWarm);
        Check.test("9: pass bounds", TimeTests::passBounds);
        Check.test("10: time", TimeTests::timeGoesBy);
        Check.test("11: busy", TimeTests::busyRoles);
        Check.test("12: pay", TimeTests::payOfRoles);
        Check.test("11, 12: no such role", TimeTests::noSuchRole);
    }

    private static void hoursAgePots() {
        Gatherhouse house = new Gatherhouse();
        house.glass(600, 1100, 100, 0);
        house.pot(0);
        house.pot(0);
        house.charge(0, 10);
        Check.same(house.hours(1), 0);
        Check.same(house.of(0, 's'), 28);
        Check.same(house.of(0, 'a'), 1);
        Check.same(house.of(1, 'a'), 1);
        house.hours(13);
        Check.same(house.of(0, 's'), 2);
        house.hours(1);
        Check.same(house.of(0, 's'), 0);
        house.hours(34);
        Check.same(house.of(0, 's'), 0);
        Check.same(house.of(0, 't'), 0);
        house.hours(1);
        Check.same(house.of(0, 't'), 1);
        Check.same(house.of(1, 't'), 1);
        house.hours(50);
        Check.same(house.of(0, 't'), 2);
        house.charge(0, 10);
        house.change(0);
        house.hours(3);
        Check.same(house.of(0, 's'), 30);
        Check.same(house.of(0, 'a'), 3);
        Check.same(house.of(1, 'a'), 103);
    }

    private static void hoursBringPiecesOut() {
        Gatherhouse house = Houses.open();
        int one = Houses.ready(house, 0, 20);
        Houses.crack(house, one);
        int two = Houses.ready(house, 0, 20);
        Houses.crack(house, two);
        house.drop(200);
        Check.same(house.heatOf(one), 1060);
        Check.same(house.hours(4), 0);
        Check.same(house.heatOf(two), 260);
        Check.same(house.hours(2), 2);
        Check.same(house.hours(1), 0);
        Check.same(house.state(one), 'x');
    }

    private static void hoursBounds() {
        Gatherhouse house = Houses.open();
        Check.argument(house, () -> house.hours(0));
        Check.argument(house, () -> house.hours(-1));
        Check.argument(house, () -> house.hours(241));
        Check.argument(house, () -> house.hours(Integer.MAX_VALUE));
        Check.same(house.of(0, 'a'), 10);
        Check.same(house.hours(240), 0);
        Check.same(house.of(0, 'a'), 250);
        Check.same(house.of(0, 't'), 5);
    }

    private static void hoursWantRest() {
        Gatherhouse house = Houses.open();
        int piece = house.gather(0, 20);
        Check.argument(house, () -> house.hours(0));
        Check.unsupported(house, () -> house.hours(1));
        house.pass(20);
        Check.unsupported(house, () -> house.hours(1));
        house.crack(piece);
        Check.illegalState(house, () -> house.hours(1));
        Check.argument(house, () -> house.hours(241));
        house.pass(2);
        Check.illegalState(house, () -> house.hours(1));
        Check.same(house.of(0, 'a'), 10);
        house.pass(1);
        Check.same(house.hours(1), 0);
        Check.same(house.of(0, 'a'), 11);
    }

    private static void eachRoleHinders() {
        Gatherhouse gatherer = Houses.of(1100, 1100, 100);
        gatherer.gather(0, 20);
        Gatherhouse servitor = Houses.of(1058, 1100, 100);
        servitor.swing(Houses.ready(servitor, 0, 40), 0, 1);
        Gatherhouse gaffer = Houses.of(1058, 1100, 100);
        gaffer.blow(Houses.ready(gaffer, 0, 40), 0, 1);
        for (Gatherhouse house : new Gatherhouse[] {gatherer, servitor, gaffer}) {
            Check.unsupported(house, () -> house.hours(1));
            Check.unsupported(house, () -> house.days(1));
            Check.same(house.pass(2), 1);
            hindersToItsLastSecond(house);
        }
        Gatherhouse boy = Houses.open();
        boy.crack(Houses.ready(boy, 0, 40));
        hindersToItsLastSecond(boy);
    }

    private static void hindersToItsLastSecond(Gatherhouse house) {
        int waited = 0;
        while (house.busy('g') + house.busy('s') + house.busy('f') + house.busy('b') > 0) {
            Check.illegalState(house, () -> house.hours(1));
            Check.illegalState(house, () -> house.days(1));
            house.pass(1);
            waited++;
        }
        Check.same(waited >= 3, true);
        Check.same(house.hours(1), 0);
        Check.same(house.days(1), 0);
    }

    private static void hoursAreNoSeconds() {
        Gatherhouse house = Houses.open();
        int piece = Houses.ready(house, 0, 20);
        Houses.crack(house, piece);
        Check.same(house.time(), 23);
        house.hours(1);
        Check.same(house.time(), 23);
        Check.same(house.heatOf(piece), 1020);
    }

    private static void passCools() {
        Gatherhouse house = Houses.open();
        int thick = house.gather(0, 20);
        Check.same(house.heatOf(thick), 1100);
        Check.same(house.pass(1), 0);
        Check.same(house.heatOf(thick), 1098);
        house.pass(19);
        Check.same(house.heatOf(thick), 1060);
        int thin = house.gather(0, 19);
        house.pass(10);
        Check.same(house.heatOf(thick), 1040);
        Check.same(house.heatOf(thin), 1070);
    }

    private static void oneThinWall() {
        Gatherhouse house = Houses.open();
        int piece = Houses.ready(house, 0, 40);
        house.split(piece, 0);
        house.pass(4);
        Check.same(house.heatOf(piece), 1052);
        house.blow(piece, 1, 6);
        Check.same(house.ring(piece, 1, 'w'), 18);
        house.pass(8);
        Check.same(house.heatOf(piece), 1028);
        house.heat(piece, 1);
        house.pass(2);
        Check.same(house.heatOf(piece), 1033);
    }

    private static void passLosesPieces() {
        Gatherhouse house = Houses.of(1000, 1100, 100);
        int one = house.gather(0, 20);
        Check.same(house.pass(50), 0);
        int two = house.gather(0, 10);
        Check.same(house.state(one), 'p');
        Check.same(house.pass(1), 1);
        Check.same(house.state(one), 'x');
        Check.same(house.pass(33), 1);
        Check.same(house.state(two), 'x');
        Check.same(house.pass(600), 0);
    }

    private static void lowIsStillWarm() {
        Gatherhouse house = Houses.of(1040, 1100, 100);
        int piece = house.gather(0, 20);
        house.pass(30);
        Check.same(house.heatOf(piece), 1040);
        Check.same(house.state(piece), 'p');
        Check.same(house.pass(1), 1);
        Check.noElement(house, () -> house.heatOf(piece));
    }

    private static void passBounds() {
        Gatherhouse house = Houses.open();
        Check.argument(house, () -> house.pass(0));
        Check.argument(house, () -> house.pass(-5));
        Check.argument(house, () -> house.pass(601));
        Check.same(house.time(), 0);
        Check.same(house.pass(600), 0);
        Check.same(house.pass(1), 0);
        Check.same(house.time(), 601);
    }

    private static void timeGoesBy() {
        Gatherhouse house = new Gatherhouse();
        Check.same(house.time(), 0);
        house.pass(17);
        house.pass(3);
        Check.same(house.time(), 20);
        house.hours(3);
        house.days(2);
        Check.same(house.time(), 20);
    }

    private static void busyRoles() {
        Gatherhouse house = Houses.open();
        int piece = house.gather(0, 60);
        Check.same(house.busy('g'), 20);
        Check.same(house.busy('s'), 0);
        house.pass(5);
        Check.same(house.busy('g'), 15);
        house.pass(15);
        Check.same(house.busy('g'), 0);
        house.pass(1);
        Check.same(house.busy('g'), 0);
        house.blow(piece, 0, 1);
        Check.same(house.busy('f'), 8);
        house.pass(8);
        house.neck(piece, 0, 1);
        Check.same(house.busy('f'), 10);
        house.pass(10);
        house.swing(piece, 0, 1);
        Check.same(house.busy('s'), 6);
        house.pass(6);
        house.split(piece, 0);
        Check.same(house.busy('s'), 4);
        house.pass(4);
        house.lay(piece, 0, 1);
        Check.same(house.busy('g'), 15);
        house.pass(15);
        house.shear(piece);
        Check.same(house.busy('s'), 5);
        house.pass(5);
        house.heat(piece, 60);
        Check.same(house.busy('b'), 2);
        house.pass(60);
        int other = Houses.ready(house, 0, 60);
        house.join(piece, other);
        Check.same(house.busy('f'), 12);
        Check.same(house.busy('s'), 12);
        Check.same(house.busy('g'), 0);
        house.pass(12);
        house.crack(piece);
        Check.same(house.busy('b'), 3);
    }

    private static void payOfRoles() {
        Gatherhouse house = Houses.open();
        int piece = Houses.ready(house, 0, 60);
        pays(house, 1, 0, 0, 0);
        house.blow(piece, 0, 1);
        house.pass(8);
        pays(house, 1, 0, 1, 0);
        house.neck(piece, 0, 1);
        house.pass(10);
        pays(house, 1, 0, 2, 0);
        house.swing(piece, 0, 1);
        house.pass(6);
        pays(house, 1, 1, 2, 0);
        house.split(piece, 0);
        house.pass(4);
        pays(house, 1, 2, 2, 0);
        house.lay(piece, 0, 1);
        house.pass(15);
        pays(house, 2, 2, 2, 0);
        house.shear(piece);
        house.pass(5);
        pays(house, 2, 3, 2, 0);
        house.heat(piece, 2);
        house.pass(2);
        pays(house, 2, 3, 2, 1);
        house.join(piece, Houses.ready(house, 0, 60));
        house.pass(12);
        pays(house, 3, 4, 3, 1);
        house.crack(piece);
        pays(house, 3, 4, 3, 2);
        Check.unsupported(house, () -> house.crack(piece));
        pays(house, 3, 4, 3, 2);
    }

    private static void pays(Gatherhouse house, int gatherer, int servitor, int gaffer, int boy) {
        Check.same(house.pay('g'), gatherer);
        Check.same(house.pay('s'), servitor);
        Check.same(house.pay('f'), gaffer);
        Check.same(house.pay('b'), boy);
    }

    private static void noSuchRole() {
        Gatherhouse house = new Gatherhouse();
        for (char letter : new char[] {'a', 'G', 0, 65535}) {
            Check.argument(house, () -> house.busy(letter));
            Check.argument(house, () -> house.pay(letter));
        }
    }
}
