import java.util.function.Supplier;

/** For each number that a call takes: the last that is taken and the first that is refused, at both ends. */
final class BoundTests {
    interface Call {
        Object run(Gatherhouse house, int number);
    }

    interface LetterCall {
        Object run(Gatherhouse house, char letter);
    }

    private BoundTests() {
    }

    static void run() {
        glassesAndPots();
        time();
        work();
        lehrAndTrade();
        letters();
    }

    private static void glassesAndPots() {
        Check.test("2: low is 600 to 1100",
                () -> numbers(Gatherhouse::new, 600, 1100, (h, n) -> h.glass(n, 1100, 100, 0)));
        Check.test("2: high is low, not less, to 1100",
                () -> numbers(Gatherhouse::new, 700, 1100, (h, n) -> h.glass(700, n, 100, 0)));
        Check.test("2: high is 1100 where low is",
                () -> numbers(Gatherhouse::new, 1100, 1100, (h, n) -> h.glass(1100, n, 100, 0)));
        Check.test("2: expansion is 50 to 150",
                () -> numbers(Gatherhouse::new, 50, 150, (h, n) -> h.glass(700, 900, n, 0)));
        Check.test("2: colour is 0 to 9",
                () -> numbers(Gatherhouse::new, 0, 9, (h, n) -> h.glass(700, 900, 100, n)));
        Check.test("5: a charge is 1 to 500",
                () -> numbers(BoundTests::emptyPot, 1, 500, (h, n) -> h.charge(0, n)));
        Check.test("5: a charge into 700 is 1 to 300",
                () -> numbers(BoundTests::potOf700, 1, 300, (h, n) -> h.charge(0, n)));
        Check.test("5: a charge into 500 is 1 to 500",
                () -> numbers(BoundTests::potOf500, 1, 500, (h, n) -> h.charge(0, n)));
        Check.test("5: no charge into a pot that is full", BoundTests::noChargeIntoFull);
    }

    private static void time() {
        Check.test("8: hours are 1 to 240", () -> numbers(Houses::open, 1, 240, (h, n) -> h.hours(n)));
        Check.test("9: seconds are 1 to 600", () -> numbers(Houses::open, 1, 600, (h, n) -> h.pass(n)));
        Check.test("36: days are 1 to 60", () -> numbers(Houses::open, 1, 60, (h, n) -> h.days(n)));
    }

    private static void work() {
        Check.test("13: a mass is 10 to 60", () -> numbers(Houses::open, 10, 60, (h, n) -> h.gather(0, n)));
        Check.test("14: heat is for 1 to 60", () -> numbers(BoundTests::oneReady, 1, 60, (h, n) -> h.heat(0, n)));
        Check.test("15: blow is 1 to 30", () -> numbers(BoundTests::oneReady, 1, 30, (h, n) -> h.blow(0, 0, n)));
        Check.test("16: swing is 1 to 30", () -> numbers(BoundTests::oneReady, 1, 30, (h, n) -> h.swing(0, 0, n)));
        Check.test("17: neck is 1 to 30", () -> numbers(BoundTests::oneWide, 1, 30, (h, n) -> h.neck(0, 0, n)));
        Check.test("20: a thickness is 1 to 9", () -> numbers(BoundTests::oneReady, 1, 9, (h, n) -> h.lay(0, 0, n)));
    }

    private static void lehrAndTrade() {
        Check.test("34: a drop is 10 to 200", () -> numbers(Gatherhouse::new, 10, 200, (h, n) -> h.drop(n)));
        Check.test("38: a depth is 1 to 9", () -> numbers(BoundTests::oneLayered, 1, 9, (h, n) -> h.cut(0, 0, n)));
        Check.test("40: a count is 2 to 6", () -> numbers(BoundTests::sixDone, 2, 6, (h, n) -> h.set(n, 1, 99)));
        Check.test("40: rings are 1 to 8",
                () -> numbers(BoundTests::doneOfOneAndOfEightRings, 1, 8, (h, n) -> h.set(2, n, 99)));
        Check.test("40: apart is 0 to 99", () -> numbers(BoundTests::sixDone, 0, 99, (h, n) -> h.set(2, 1, n)));
    }

    private static void letters() {
        Check.test("7: letters of a pot are m, s, t and a", () -> letters("msta", (h, c) -> h.of(0, c)));
        Check.test("11: letters of roles are g, s, f and b", () -> letters("gsfb", (h, c) -> h.busy(c)));
        Check.test("12: letters of roles are g, s, f and b", () -> letters("gsfb", (h, c) -> h.pay(c)));
        Check.test("26: letters of a ring are r, h and w", () -> letters("rhw", (h, c) -> h.ring(0, 0, c)));
    }

    /** Each number is tried in a house of its own, as one that is taken changes it. */
    static void numbers(Supplier<Gatherhouse> fresh, int least, int most, Call call) {
        call.run(fresh.get(), least);
        call.run(fresh.get(), most);
        for (int refused : new int[] {least - 1, most + 1, -most, Integer.MIN_VALUE, Integer.MAX_VALUE}) {
            Gatherhouse house = fresh.get();
            Check.argument(house, () -> call.run(house, refused));
        }
    }

    private static void letters(String taken, LetterCall call) {
        Gatherhouse house = oneReady();
        for (int letter = 0; letter <= Character.MAX_VALUE; letter++) {
            char told = (char) letter;
            if (taken.indexOf(told) >= 0) {
                call.run(house, told);
            } else {
                Check.argument(house, () -> call.run(house, told));
            }
        }
    }

    private static Gatherhouse emptyPot() {
        Gatherhouse house = new Gatherhouse();
        house.glass(600, 1100, 100, 0);
        house.pot(0);
        return house;
    }

    private static Gatherhouse potOf500() {
        Gatherhouse house = emptyPot();
        house.charge(0, 500);
        return house;
    }

    private static Gatherhouse potOf700() {
        Gatherhouse house = potOf500();
        house.charge(0, 200);
        return house;
    }

    private static void noChargeIntoFull() {
        Gatherhouse house = Houses.open();
        for (int mass : new int[] {1, 2, 500}) {
            Check.argument(house, () -> house.charge(0, mass));
        }
        Check.same(house.of(0, 'm'), 1000);
        Check.same(house.of(0, 's'), 10);
    }

    private static Gatherhouse oneReady() {
        Gatherhouse house = Houses.open();
        Houses.ready(house, 0, 40);
        return house;
    }

    /** Of the radius 35, so that 30 less are left with 5. */
    private static Gatherhouse oneWide() {
        Gatherhouse house = Houses.open();
        Houses.ready(house, 0, 60);
        house.blow(0, 0, 30);
        house.pass(8);
        return house;
    }

    /** Done, with a layer of 9. */
    private static Gatherhouse oneLayered() {
        Gatherhouse house = Houses.open();
        Houses.ready(house, 0, 10);
        house.lay(0, 0, 9);
        house.pass(15);
        Houses.annealed(house, 0);
        Check.same(house.state(0), 'd');
        return house;
    }

    private static Gatherhouse sixDone() {
        Gatherhouse house = Houses.open();
        for (int i = 0; i < 6; i++) {
            house.crack(Houses.thinOnPipe(house, 0));
            house.pass(3);
        }
        house.drop(10);
        Check.same(house.hours(110), 6);
        return house;
    }

    private static Gatherhouse doneOfOneAndOfEightRings() {
        Gatherhouse house = Houses.open();
        for (int i = 0; i < 4; i++) {
            int piece = Houses.thinOnPipe(house, 6);
            if (i % 2 == 1) {
                Houses.splitIntoEight(house, piece);
            }
            Houses.crack(house, piece);
        }
        house.drop(10);
        Check.same(house.hours(110), 4);
        Check.same(house.rings(1), 8);
        Check.same(house.rings(2), 1);
        return house;
    }
}
