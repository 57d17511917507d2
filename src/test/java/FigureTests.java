import java.lang.reflect.Field;

/** Promises 45 to 48: figures. */
final class FigureTests {
    private FigureTests() {
    }

    static void run() {
        Check.test("45: checksum", FigureTests::checksumSums);
        Check.test("46: wholeShare", FigureTests::wholeShareDivides);
        Check.test("47: meanMass", FigureTests::meanMassDivides);
        Check.test("48: isSound of a house as it comes", FigureTests::soundAsItComes);
        Check.test("48: isSound of a house that was tampered with", FigureTests::unsoundIfTampered);
    }

    private static void checksumSums() {
        Gatherhouse house = Houses.open();
        Check.same(house.checksum(), 7L);
        int piece = Houses.ready(house, 0, 20);
        long one = ((7L * 31 + 'p') * 31 + 1000) * 31;
        Check.same(house.checksum(), one);
        Houses.crack(house, piece);
        house.hours(2);
        long strained = ((7L * 31 + 'l') * 31 + 1000) * 31 + 16;
        Check.same(house.checksum(), strained);
        house.gather(0, 60);
        long two = ((strained * 31 + 'p') * 31 + 3000) * 31;
        Check.same(house.checksum(), two);
        house.pass(300);
        Check.same(house.checksum(), ((strained * 31 + 'x') * 31 + 3000) * 31);
    }

    private static void wholeShareDivides() {
        Gatherhouse house = Houses.of(900, 1100, 100);
        Check.noElement(house, house::wholeShare);
        int one = Houses.ready(house, 0, 20);
        Check.same(house.wholeShare(), 1.0f);
        int two = Houses.ready(house, 0, 20);
        house.join(one, two);
        Check.same(house.wholeShare(), 0.5f);
        int three = Houses.ready(house, 0, 20);
        house.crack(three);
        Check.same(house.wholeShare(), (float) 2 / (float) 3);
        house.pass(300);
        Check.same(house.wholeShare(), (float) 1 / (float) 3);
        house.days(2);
        Check.same(house.wholeShare(), 0.0f);
    }

    private static void meanMassDivides() {
        Gatherhouse house = Houses.open();
        Check.noElement(house, house::meanMass);
        Houses.ready(house, 0, 20);
        Check.same(house.meanMass(), 1000.0);
        house.join(0, Houses.ready(house, 0, 21));
        Check.same(house.meanMass(), (2050.0 + 1050.0) / 2.0);
        house.pass(12);
        Houses.ready(house, 0, 23);
        Check.same(house.meanMass(), (double) 4250 / (double) 3);
        house.pass(300);
        Check.same(house.meanMass(), (double) 4250 / (double) 3);
    }

    private static void soundAsItComes() {
        Gatherhouse house = Houses.ofTwo(100, 101);
        Check.same(house.isSound(), true);
        int piece = Houses.ready(house, 0, 20);
        house.lay(piece, 1, 9);
        house.pass(15);
        Check.same(house.isSound(), true);
        Houses.crack(house, piece);
        Check.same(house.isSound(), true);
        house.days(1);
        Check.same(house.isSound(), true);
        house.gather(0, 20);
        house.pass(300);
        Check.same(house.isSound(), true);
    }

    /** No run of calls makes a house unsound, so fields are set from outside. */
    private static void unsoundIfTampered() throws Exception {
        bounded("radius", 1, 60);
        bounded("height", 2, 60);
        bounded("wall", 2, 99);
        Gatherhouse cold = Houses.open();
        cold.gather(0, 20);
        put(piecesOf(cold)[0], "heat", 600);
        Check.same(cold.isSound(), true);
        put(piecesOf(cold)[0], "heat", 599);
        Check.same(cold.isSound(), false);
        Gatherhouse cut = Houses.open();
        cut.gather(0, 20);
        put(piecesOf(cut)[0], "state", 'd');
        ((int[]) get(ringOf(cut), "left"))[1] = -1;
        Check.same(cut.isSound(), false);
        Gatherhouse full = Houses.open();
        for (int i = 0; i < 7; i++) {
            Check.same(full.isSound(), true);
            put(piecesOf(full)[Houses.ready(full, 0, 20)], "state", 'l');
        }
        Check.same(full.isSound(), false);
    }

    private static void bounded(String name, int least, int most) throws Exception {
        Gatherhouse house = Houses.open();
        house.gather(0, 20);
        for (int fitting : new int[] {least, most}) {
            put(ringOf(house), name, fitting);
            Check.same(house.isSound(), true);
        }
        for (int wrong : new int[] {least - 1, most + 1}) {
            put(ringOf(house), name, wrong);
            Check.same(house.isSound(), false);
        }
        put(piecesOf(house)[0], "state", 'x');
        Check.same(house.isSound(), true);
    }

    private static Object[] piecesOf(Gatherhouse house) throws Exception {
        return (Object[]) get(house, "pieces");
    }

    private static Object ringOf(Gatherhouse house) throws Exception {
        return ((Object[]) get(piecesOf(house)[0], "rings"))[0];
    }

    private static Object get(Object owner, String name) throws Exception {
        return open(owner, name).get(owner);
    }

    private static void put(Object owner, String name, Object value) throws Exception {
        open(owner, name).set(owner, value);
    }

    private static Field open(Object owner, String name) throws Exception {
        Field field = owner.getClass().getDeclaredField(name);
        field.setAccessible(true);
        return field;
    }
}
