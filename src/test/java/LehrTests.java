/** Promises 34 to 37 and the edges of strain: the lehr and days. */
final class LehrTests {
    private LehrTests() {
    }

    static void run() {
        Check.test("34: drop", LehrTests::dropTells);
        Check.test("34: drop bounds", LehrTests::dropBounds);
        Check.test("35: lehr", LehrTests::lehrTells);
        Check.test("8, 32, 33: strains of 40 and more", LehrTests::firstsAndSeconds);
        Check.test("8, 32, 33: strains of 100 and more", LehrTests::strainsThatBreak);
        Check.test("33: a flaw makes a second", LehrTests::flawedIsSecond);
        Check.test("32: strain grows above 450 alone", LehrTests::strainAbove450);
        Check.test("32: the greatest wall strains", LehrTests::greatestWallStrains);
        Check.test("8: a piece comes out at 100 degrees", LehrTests::comesOutAt100);
        Check.test("36: days are 24 hours each", LehrTests::daysAreHours);
        Check.test("36: days bounds", LehrTests::daysBounds);
        Check.test("36: pieces break days later, by how far expansions are apart", LehrTests::breaksLater);
        Check.test("36: the last hour of a day is of that day", LehrTests::lastHourOfDay);
        Check.test("36: a sold piece breaks too, one in the lehr is not counted", LehrTests::soldBreaks);
        Check.test("8: by hours pieces break too, uncounted", LehrTests::breaksByHours);
        Check.test("36: glasses that were sheared away still break", LehrTests::shearedStillBreaks);
        Check.test("37: day", LehrTests::dayTells);
    }

    private static void dropTells() {
        Gatherhouse house = Houses.open();
        Check.same(house.drop(10), 40);
        Check.same(house.drop(200), 10);
        int piece = Houses.ready(house, 0, 20);
        Houses.crack(house, piece);
        house.hours(1);
        Check.same(house.heatOf(piece), 860);
        Check.same(house.drop(33), 200);
        house.hours(2);
        Check.same(house.heatOf(piece), 794);
        Check.same(house.strain(piece), 40 + 6 + 6);
    }

    private static void dropBounds() {
        Gatherhouse house = new Gatherhouse();
        Check.argument(house, () -> house.drop(9));
        Check.argument(house, () -> house.drop(201));
        Check.argument(house, () -> house.drop(-40));
        Check.same(house.drop(50), 40);
    }

    private static void lehrTells() {
        Gatherhouse house = Houses.open();
        Check.same(house.lehr(), 0);
        int piece = Houses.ready(house, 0, 20);
        Check.same(house.lehr(), 0);
        Houses.crack(house, piece);
        Check.same(house.lehr(), 1);
        house.drop(200);
        house.hours(4);
        Check.same(house.lehr(), 1);
        house.hours(1);
        Check.same(house.lehr(), 0);
    }

    /** A piece that is cracked off after so many seconds and loses 10 degrees each hour. */
    private static Gatherhouse annealed(int mass, int seconds) {
        Gatherhouse house = Houses.open();
        int piece = house.gather(0, mass);
        house.pass(seconds);
        Houses.crack(house, piece);
        house.drop(10);
        house.hours(110);
        return house;
    }

    private static void firstsAndSeconds() {
        Gatherhouse good = annealed(10, 84);
        Check.same(good.strain(0), 40);
        Check.same(good.state(0), 'd');
        Check.same(good.isFirst(0), true);
        Gatherhouse poor = annealed(10, 83);
        Check.same(poor.strain(0), 41);
        Check.same(poor.state(0), 'd');
        Check.same(poor.isFirst(0), false);
    }

    private static void strainsThatBreak() {
        Gatherhouse whole = annealed(20, 75);
        Check.same(whole.strain(0), 100);
        Check.same(whole.state(0), 'd');
        Check.same(whole.isFirst(0), false);
        Gatherhouse house = Houses.open();
        int piece = house.gather(0, 20);
        house.pass(75);
        Houses.crack(house, piece);
        house.drop(15);
        house.hours(1);
        house.drop(10);
        house.hours(110);
        Check.same(house.strain(0), 101);
        Check.same(house.state(0), 'x');
        Check.same(house.isFirst(0), false);
    }

    private static void flawedIsSecond() {
        Gatherhouse house = Houses.open();
        house.hours(40);
        int piece = Houses.ready(house, 0, 10);
        house.blow(piece, 0, 1);
        house.pass(8);
        Houses.annealed(house, piece);
        Check.same(house.strain(piece), 0);
        Check.same(house.flaws(piece), 1);
        Check.same(house.state(piece), 'd');
        Check.same(house.isFirst(piece), false);
    }

    private static void strainAbove450() {
        Gatherhouse house = Houses.open();
        int piece = house.gather(0, 20);
        house.pass(125);
        Check.same(house.heatOf(piece), 850);
        Houses.crack(house, piece);
        house.drop(200);
        house.hours(2);
        Check.same(house.heatOf(piece), 450);
        Check.same(house.strain(piece), 80);
        house.hours(1);
        Check.same(house.strain(piece), 80);
        Gatherhouse warmer = Houses.open();
        int other = warmer.gather(0, 19);
        warmer.pass(83);
        Check.same(warmer.heatOf(other), 851);
        Houses.crack(warmer, other);
        warmer.drop(200);
        warmer.hours(2);
        Check.same(warmer.heatOf(other), 451);
        warmer.hours(1);
        Check.same(warmer.strain(other), 38 * 3);
    }

    private static void greatestWallStrains() {
        Gatherhouse house = Houses.open();
        int piece = Houses.ready(house, 0, 40);
        house.split(piece, 0);
        house.pass(4);
        house.blow(piece, 1, 5);
        house.pass(8);
        house.split(piece, 0);
        house.pass(4);
        house.neck(piece, 1, 1);
        house.pass(10);
        Check.same(house.ring(piece, 1, 'w'), 50);
        Houses.crack(house, piece);
        house.hours(1);
        Check.same(house.strain(piece), 20);
        Gatherhouse other = Houses.open();
        Houses.crack(other, Houses.ready(other, 0, 60));
        other.drop(200);
        other.hours(1);
        Check.same(other.strain(0), 120);
    }

    private static void comesOutAt100() {
        Gatherhouse house = Houses.open();
        int piece = house.gather(0, 20);
        house.pass(100);
        Houses.crack(house, piece);
        house.drop(200);
        house.hours(3);
        house.drop(100);
        Check.same(house.hours(1), 0);
        Check.same(house.heatOf(piece), 200);
        house.drop(99);
        Check.same(house.hours(1), 0);
        Check.same(house.heatOf(piece), 101);
        house.drop(10);
        Check.same(house.hours(1), 1);
        int other = house.gather(0, 20);
        house.pass(100);
        Houses.crack(house, other);
        house.drop(200);
        Check.same(house.hours(3), 0);
        Check.same(house.hours(1), 1);
    }

    private static void daysAreHours() {
        Gatherhouse house = Houses.open();
        int piece = Houses.ready(house, 0, 20);
        Houses.crack(house, piece);
        Check.same(house.days(1), 0);
        Check.same(house.of(0, 'a'), 34);
        Check.same(house.of(0, 's'), 0);
        Check.same(house.state(piece), 'x');
        Check.same(house.day(), 1);
        Check.same(house.days(60), 0);
        Check.same(house.of(0, 'a'), 34 + 60 * 24);
        Check.same(house.of(0, 't'), (34 + 60 * 24) / 50);
        Check.same(house.day(), 61);
    }

    private static void daysBounds() {
        Gatherhouse house = Houses.open();
        Check.argument(house, () -> house.days(0));
        Check.argument(house, () -> house.days(61));
        Check.argument(house, () -> house.days(-1));
        Check.argument(house, () -> house.days(Integer.MAX_VALUE));
        int piece = Houses.ready(house, 0, 20);
        Check.unsupported(house, () -> house.days(1));
        Check.argument(house, () -> house.days(0));
        house.crack(piece);
        Check.illegalState(house, () -> house.days(1));
        Check.same(house.day(), 0);
        Check.same(house.of(0, 'a'), 10);
    }

    /** A first of two glasses that came out in the hour 98, so in the day 4; it is the hour 100. */
    private static Gatherhouse layered(int expansion, int other) {
        Gatherhouse house = Houses.ofTwo(expansion, other);
        int piece = Houses.ready(house, 0, 10);
        house.blow(piece, 0, 2);
        house.pass(8);
        house.lay(piece, 1, 1);
        house.pass(15);
        Houses.crack(house, piece);
        house.drop(10);
        house.hours(70);
        Check.same(house.hours(20), 1);
        Check.same(house.day(), 4);
        Check.same(house.isFirst(piece), true);
        return house;
    }

    private static void breaksLater() {
        int[] days = {0, 0, 0, 20, 15, 12};
        for (int apart = 0; apart <= 5; apart++) {
            Gatherhouse up = layered(100, 100 + apart);
            Gatherhouse down = layered(100, 100 - apart);
            for (Gatherhouse house : new Gatherhouse[] {up, down}) {
                if (days[apart] == 0) {
                    Check.same(house.days(60), 0);
                    Check.same(house.state(0), 'd');
                    continue;
                }
                Check.same(house.days(days[apart] - 1), 0);
                Check.same(house.hours(43), 0);
                Check.same(house.state(0), 'd');
                if (house == up) {
                    Check.same(house.hours(1), 0);
                } else {
                    Check.same(house.days(1), 1);
                }
                Check.same(house.state(0), 'x');
                Check.same(house.isFirst(0), true);
                Check.same(house.days(30), 0);
            }
        }
    }

    private static void lastHourOfDay() {
        for (int late = 0; late <= 1; late++) {
            Gatherhouse house = Houses.ofTwo(100, 105);
            int piece = Houses.ready(house, 0, 10);
            house.blow(piece, 0, 2);
            house.pass(8);
            house.lay(piece, 1, 1);
            house.pass(15);
            Check.same(house.heatOf(piece), 971);
            Houses.crack(house, piece);
            house.drop(10);
            Check.same(house.hours(85 + late), 0);
            house.drop(200);
            Check.same(house.hours(1), 1);
            Check.same(house.isFirst(piece), true);
            Check.same(house.day(), 4);
            house.hours(240);
            house.hours(late == 0 ? 47 : 70);
            Check.same(house.state(piece), 'd');
            house.hours(1);
            Check.same(house.state(piece), 'x');
        }
    }

    private static void soldBreaks() {
        Gatherhouse house = layered(100, 105);
        house.sell(0);
        int lost = Houses.ready(house, 0, 40);
        Houses.crack(house, lost);
        Check.same(house.days(12), 0);
        Check.same(house.state(lost), 'x');
        Check.same(house.state(0), 's');
        Check.same(house.days(2), 1);
        Check.same(house.state(0), 'x');
    }

    private static void breaksByHours() {
        Gatherhouse house = layered(100, 105);
        house.hours(240);
        Check.same(house.state(0), 'd');
        Check.same(house.hours(72), 0);
        Check.same(house.day(), 17);
        Check.same(house.state(0), 'x');
        Check.same(house.days(1), 0);
    }

    private static void shearedStillBreaks() {
        Gatherhouse house = Houses.ofTwo(100, 105);
        int piece = Houses.ready(house, 0, 10);
        int other = Houses.ready(house, 1, 10);
        house.join(piece, other);
        house.pass(12);
        house.shear(piece);
        house.pass(5);
        house.blow(piece, 0, 1);
        house.pass(8);
        Houses.annealed(house, piece);
        Check.same(house.state(piece), 'd');
        Check.same(house.days(20), 1);
    }

    private static void dayTells() {
        Gatherhouse house = new Gatherhouse();
        house.hours(23);
        Check.same(house.day(), 0);
        house.hours(1);
        Check.same(house.day(), 1);
        house.hours(5);
        house.days(2);
        Check.same(house.day(), 3);
        house.hours(19);
        Check.same(house.day(), 4);
        house.pass(600);
        Check.same(house.day(), 4);
    }
}
