/** Houses that tests begin with. */
final class Houses {
    private Houses() {
    }

    /** A house whose pot 0 holds 1000 clear glass of the widest range; 10 hours went by. */
    static Gatherhouse open() {
        return of(600, 1100, 100);
    }

    static Gatherhouse of(int low, int high, int expansion) {
        Gatherhouse house = new Gatherhouse();
        house.glass(low, high, expansion, 1);
        house.pot(0);
        fill(house, 0);
        house.hours(10);
        return house;
    }

    /** A house of two pots, of colours 1 and 2, both clear; 10 hours went by. */
    static Gatherhouse ofTwo(int expansion, int other) {
        Gatherhouse house = new Gatherhouse();
        house.glass(600, 1100, expansion, 1);
        house.glass(600, 1100, other, 2);
        house.pot(0);
        house.pot(1);
        fill(house, 0);
        fill(house, 1);
        house.hours(10);
        return house;
    }

    static void fill(Gatherhouse house, int pot) {
        house.charge(pot, 500);
        house.charge(pot, 500);
    }

    /** Full, clear, without stones. */
    static void renew(Gatherhouse house, int pot) {
        house.change(pot);
        fill(house, pot);
        house.hours(10);
    }

    /** A piece that is not busy any more, 20 seconds after it was gathered. */
    static int ready(Gatherhouse house, int pot, int mass) {
        int piece = house.gather(pot, mass);
        house.pass(20);
        return piece;
    }

    static void crack(Gatherhouse house, int piece) {
        house.crack(piece);
        house.pass(3);
    }

    /** A first of one ring without strain: radius 6, height 10 and wall 8, so of the mass 480. */
    static int first(Gatherhouse house) {
        return thin(house, 0);
    }

    /** As first, its ring being swung by so much. */
    static int thin(Gatherhouse house, int swung) {
        renew(house, 0);
        int piece = thinOnPipe(house, swung);
        annealed(house, piece);
        return piece;
    }

    /** A piece of the radius 6 whose wall is below 10, so that it comes out without strain at the drop 10. */
    static int thinOnPipe(Gatherhouse house, int swung) {
        int piece = ready(house, 0, 10);
        house.blow(piece, 0, 1);
        house.pass(8);
        if (swung > 0) {
            house.swing(piece, 0, swung);
            house.pass(6);
        }
        return piece;
    }

    /** Splits a piece of one ring of the height 16 or more until it has eight. */
    static void splitIntoEight(Gatherhouse house, int piece) {
        for (int ring : new int[] {0, 0, 2, 0, 2, 4, 6}) {
            house.split(piece, ring);
            house.pass(4);
        }
        Check.same(house.rings(piece), 8);
    }

    /** Brings a piece out of the lehr as slowly as can be. */
    static void annealed(Gatherhouse house, int piece) {
        crack(house, piece);
        int drop = house.drop(10);
        house.hours(110);
        house.drop(drop);
    }
}
