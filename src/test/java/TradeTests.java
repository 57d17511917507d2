import java.util.Random;

/** Promises 40 to 44: sets and trade. */
final class TradeTests {
    private TradeTests() {
    }

    static void run() {
        Check.test("40: the least apart", TradeTests::leastApart);
        Check.test("40: of these the lightest", TradeTests::lightest);
        Check.test("40: of these the lower numbers", TradeTests::lowerNumbers);
        Check.test("40: rings, states and sets keep pieces out", TradeTests::keptOut);
        Check.test("40: refused if farther apart", TradeTests::fartherApart);
        Check.test("40: set bounds", TradeTests::setBounds);
        Check.test("40: as a search through all choices finds it", TradeTests::likeAllChoices);
        Check.test("41: isInSet", TradeTests::isInSetTells);
        Check.test("42: price", TradeTests::priceTells);
        Check.test("43, 44: sell and takings", TradeTests::sellBrings);
        Check.test("43: sell wants a piece that is done", TradeTests::sellWantsDone);
    }

    /** Firsts of the radius 6 whose rings are swung by so much. */
    private static Gatherhouse houseOf(int... swung) {
        Gatherhouse house = Houses.open();
        for (int i = 0; i < swung.length; i++) {
            Check.same(Houses.thin(house, swung[i]), i);
            Check.same(house.isFirst(i), true);
        }
        return house;
    }

    private static void members(Gatherhouse house, int count, int... due) {
        for (int i = 0; i < count; i++) {
            boolean isDue = false;
            for (int number : due) {
                isDue |= number == i;
            }
            Check.same("piece " + i + " " + house.isInSet(i), "piece " + i + " " + isDue);
        }
    }

    private static void leastApart() {
        Gatherhouse house = houseOf(0, 2, 5, 9, 2, 6);
        Check.same(house.set(3, 1, 99), 2);
        members(house, 6, 0, 1, 4);
        Gatherhouse two = houseOf(0, 2, 5, 9, 6);
        Check.same(two.set(2, 1, 99), 1);
        members(two, 5, 2, 4);
        Check.same(two.set(2, 1, 99), 2);
        members(two, 5, 0, 1, 2, 4);
    }

    private static void lightest() {
        Gatherhouse house = houseOf(0, 2, 1, 3);
        Check.same(house.mass(0) + house.mass(2), 942);
        Check.same(house.mass(1) + house.mass(2), 894);
        Check.same(house.mass(1) + house.mass(3), 900);
        Check.same(house.set(2, 1, 1), 1);
        members(house, 4, 1, 2);
    }

    private static void lowerNumbers() {
        Gatherhouse house = houseOf(30, 0, 0, 30, 0);
        Check.same(house.mass(0), house.mass(1));
        Check.same(house.set(2, 1, 0), 0);
        members(house, 5, 0, 3);
        Check.same(house.set(2, 1, 0), 0);
        members(house, 5, 0, 1, 2, 3);
        Check.noElement(house, () -> house.set(2, 1, 0));
    }

    private static void keptOut() {
        Gatherhouse house = houseOf(0, 0, 0);
        house.sell(1);
        Houses.renew(house, 0);
        int twoRings = Houses.ready(house, 0, 10);
        house.blow(twoRings, 0, 1);
        house.pass(8);
        house.split(twoRings, 0);
        house.pass(4);
        Houses.annealed(house, twoRings);
        Check.same(house.state(twoRings), 'd');
        Check.noElement(house, () -> house.set(3, 1, 99));
        Check.noElement(house, () -> house.set(2, 2, 99));
        Check.same(house.set(2, 1, 99), 0);
        members(house, 4, 0, 2);
        int other = Houses.thin(house, 0);
        Check.noElement(house, () -> house.set(2, 1, 99));
        Houses.renew(house, 0);
        int inLehr = Houses.ready(house, 0, 10);
        Check.noElement(house, () -> house.set(2, 1, 99));
        house.crack(inLehr);
        Check.noElement(house, () -> house.set(2, 1, 99));
        Check.same(house.isInSet(other), false);
    }

    private static void fartherApart() {
        Gatherhouse house = houseOf(0, 2);
        Check.unsupported(house, () -> house.set(2, 1, 1));
        Check.unsupported(house, () -> house.set(2, 1, 0));
        members(house, 2);
        Check.same(house.set(2, 1, 2), 2);
        members(house, 2, 0, 1);
    }

    private static void setBounds() {
        Gatherhouse house = houseOf(0, 0, 1, 1, 1, 2);
        Check.argument(house, () -> house.set(1, 1, 9));
        Check.argument(house, () -> house.set(7, 1, 9));
        Check.argument(house, () -> house.set(2, 0, 9));
        Check.argument(house, () -> house.set(2, 9, 9));
        Check.argument(house, () -> house.set(2, 1, -1));
        Check.argument(house, () -> house.set(2, 1, 100));
        Check.noElement(house, () -> house.set(2, 8, 99));
        Check.same(house.set(6, 1, 99), 2);
        Check.noElement(house, () -> house.set(6, 1, 0));
    }

    private static void likeAllChoices() {
        Random random = new Random(7);
        for (int run = 0; run < 12; run++) {
            int[] swung = new int[10];
            for (int i = 0; i < swung.length; i++) {
                swung[i] = random.nextInt(run < 6 ? 4 : 31);
            }
            Gatherhouse house = houseOf(swung);
            int count = 2 + run % 5;
            int best = bestChoice(house, swung.length, count);
            Check.same(house.set(count, 1, 99), apart(house, best));
            for (int i = 0; i < swung.length; i++) {
                Check.same(house.isInSet(i), (best & 1 << i) != 0);
            }
        }
    }

    private static int bestChoice(Gatherhouse house, int size, int count) {
        int best = -1;
        for (int choice = 0; choice < 1 << size; choice++) {
            if (Integer.bitCount(choice) == count && (best < 0 || isBetter(house, choice, best))) {
                best = choice;
            }
        }
        return best;
    }

    private static boolean isBetter(Gatherhouse house, int choice, int best) {
        if (apart(house, choice) != apart(house, best)) {
            return apart(house, choice) < apart(house, best);
        }
        if (mass(house, choice) != mass(house, best)) {
            return mass(house, choice) < mass(house, best);
        }
        // the lowest number in which they differ decides
        return (choice & Integer.lowestOneBit(choice ^ best)) != 0;
    }

    private static int apart(Gatherhouse house, int choice) {
        int least = Integer.MAX_VALUE;
        int most = 0;
        for (int i = 0; i < 16; i++) {
            if ((choice & 1 << i) != 0) {
                least = Math.min(least, house.height(i));
                most = Math.max(most, house.height(i));
            }
        }
        return most - least;
    }

    private static int mass(Gatherhouse house, int choice) {
        int sum = 0;
        for (int i = 0; i < 16; i++) {
            sum += (choice & 1 << i) != 0 ? house.mass(i) : 0;
        }
        return sum;
    }

    private static void isInSetTells() {
        Gatherhouse house = Houses.ofTwo(100, 105);
        for (int i = 0; i < 2; i++) {
            int piece = Houses.ready(house, 0, 10);
            house.blow(piece, 0, 2);
            house.pass(8);
            house.lay(piece, 1, 1);
            house.pass(15);
            Check.same(house.isInSet(piece), false);
            Houses.crack(house, piece);
        }
        house.drop(10);
        house.hours(100);
        Check.same(house.isInSet(0), false);
        house.set(2, 1, 0);
        house.sell(0);
        Check.same(house.isInSet(0), true);
        Check.same(house.days(30), 2);
        Check.same(house.state(1), 'x');
        Check.same(house.isInSet(0), true);
        Check.same(house.isInSet(1), true);
    }

    private static void priceTells() {
        Gatherhouse house = Houses.open();
        int piece = Houses.ready(house, 0, 59);
        Check.same(house.price(piece), 2950 / 50);
        house.blow(piece, 0, 1);
        Check.same(house.mass(piece), 2940);
        Check.same(house.price(piece), 58);
        house.pass(8);
        house.lay(piece, 0, 1);
        Check.same(house.mass(piece), 3000);
        Check.same(house.price(piece), 60 + 10);
        house.pass(15);
        house.lay(piece, 0, 1);
        Check.same(house.price(piece), 61 + 20);
        house.pass(400);
        Check.same(house.state(piece), 'x');
        Check.same(house.price(piece), 61 + 20);
        pricesOfFirstsAndSets();
    }

    private static void pricesOfFirstsAndSets() {
        Gatherhouse house = houseOf(0, 5);
        Check.same(house.price(0), 480 / 50 * 2);
        Check.same(house.price(1), 450 / 50 * 2);
        house.hours(50);
        for (int i = 2; i < 4; i++) {
            int piece = Houses.ready(house, 0, 10);
            Check.same(house.price(piece), 10);
            house.blow(piece, 0, 1);
            house.pass(8);
            Houses.crack(house, piece);
        }
        house.drop(10);
        house.hours(110);
        Check.same(house.isFirst(2), false);
        Check.same(house.price(2), 9);
        house.sell(0);
        house.set(2, 1, 0);
        Check.same(house.isInSet(2), true);
        Check.same(house.price(2), 9 + 4);
        Check.same(house.price(1), 18);
        Gatherhouse firsts = houseOf(0, 0);
        firsts.set(2, 1, 0);
        Check.same(firsts.price(0), 27);
    }

    private static void sellBrings() {
        Gatherhouse house = houseOf(0, 0, 5);
        Check.same(house.takings(), 0);
        Check.same(house.sell(2), 18);
        Check.same(house.takings(), 18);
        Check.same(house.state(2), 's');
        house.set(2, 1, 0);
        Check.same(house.sell(1), 27);
        Check.same(house.sell(0), 27);
        Check.same(house.takings(), 72);
        Check.unsupported(house, () -> house.sell(1));
        Check.same(house.takings(), 72);
        Check.same(house.price(1), 27);
        Check.same(house.pay('g'), 3);
        Check.same(house.pay('b'), 3);
    }

    private static void sellWantsDone() {
        Gatherhouse house = Houses.open();
        Check.index(house, () -> house.sell(0));
        int piece = Houses.ready(house, 0, 40);
        Check.unsupported(house, () -> house.sell(piece));
        Houses.crack(house, piece);
        Check.unsupported(house, () -> house.sell(piece));
        house.hours(24);
        Check.same(house.state(piece), 'x');
        Check.unsupported(house, () -> house.sell(piece));
        Check.index(house, () -> house.sell(1));
        Check.same(house.takings(), 0);
    }
}
