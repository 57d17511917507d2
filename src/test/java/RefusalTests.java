/** For each act: it is taken as told, and each cause by itself has it refused, with nothing changed. */
final class RefusalTests {
    /** An act on a piece, with the roles and the seconds that the document tells. */
    private record Act(String name, String promise, String roles, int seconds, BoundTests.Call call) {
    }

    private static final Act[] ACTS = {
        new Act("blow", "15", "f", 8, (h, n) -> h.blow(n, 0, 1)),
        new Act("swing", "16", "s", 6, (h, n) -> h.swing(n, 0, 1)),
        new Act("neck", "17", "f", 10, (h, n) -> h.neck(n, 0, 1)),
        new Act("split", "18", "s", 4, (h, n) -> h.split(n, 0)),
        new Act("shear", "19", "s", 5, (h, n) -> h.shear(n)),
        new Act("lay", "20", "g", 15, (h, n) -> h.lay(n, 0, 1)),
        new Act("join", "21", "fs", 12, (h, n) -> h.join(n, 1)),
        new Act("join, as the other one", "21", "fs", 12, (h, n) -> h.join(1, n)),
        new Act("crack", "22", "b", 3, (h, n) -> h.crack(n)),
    };

    private RefusalTests() {
    }

    static void run() {
        for (Act act : ACTS) {
            String head = act.promise() + ": " + act.name();
            Check.test(head + " takes and pays its roles", () -> takesAndPays(act));
            Check.test(head + " takes the piece as long", () -> takesThePiece(act));
            Check.test(head + " is refused while the piece is busy", () -> wantsThePiece(act));
            Check.test(head + " is refused while a role is busy", () -> wantsRoles(act));
            Check.test(head + " wants the heat of the range, its ends too", () -> wantsHeat(act));
            Check.test(head + " wants a piece on a pipe", () -> wantsAPipe(act.call()));
        }
        Check.test("14: heat wants a piece on a pipe", () -> wantsAPipe((h, n) -> h.heat(n, 1)));
        Check.test("14: heat takes the boy for 2 and pays him", RefusalTests::heatTakesTheBoy);
        Check.test("14: heat is refused while the piece is busy", RefusalTests::heatWantsThePiece);
        Check.test("14: heat is refused while the boy is busy", RefusalTests::heatWantsTheBoy);
        Check.test("14: heat is refused while both holes are taken", RefusalTests::heatWantsAHole);
        Check.test("14: heat does not want the heat of the range", RefusalTests::heatWantsNoHeat);
    }

    /** Four pieces of two rings on pipes, of the walls 40; the roles are free; piece 0 is at 868 degrees. */
    private static Gatherhouse workshop(int low, int high) {
        Gatherhouse house = Houses.of(low, high, 100);
        for (int i = 0; i < 4; i++) {
            Check.same(Houses.ready(house, 0, 40), i);
        }
        house.pass(20);
        for (int i = 0; i < 4; i++) {
            house.split(i, 0);
            house.pass(4);
        }
        Check.same(house.heatOf(0), 868);
        return house;
    }

    private static Gatherhouse workshop() {
        return workshop(600, 1100);
    }

    private static void takesAndPays(Act act) {
        Gatherhouse house = workshop();
        int[] paid = new int[4];
        for (int i = 0; i < 4; i++) {
            paid[i] = house.pay("gsfb".charAt(i));
        }
        act.call().run(house, 0);
        for (int i = 0; i < 4; i++) {
            char role = "gsfb".charAt(i);
            boolean isTaken = act.roles().indexOf(role) >= 0;
            Check.same(house.busy(role), isTaken ? act.seconds() : 0);
            Check.same(house.pay(role), paid[i] + (isTaken ? 1 : 0));
        }
        house.pass(act.seconds() - 1);
        for (char role : act.roles().toCharArray()) {
            Check.same(house.busy(role), 1);
        }
        house.pass(1);
        for (char role : act.roles().toCharArray()) {
            Check.same(house.busy(role), 0);
        }
    }

    private static void takesThePiece(Act act) {
        Gatherhouse house = workshop();
        act.call().run(house, 0);
        int kept = house.state(0) == 'x' ? 1 : 0;
        house.pass(act.seconds() - 1);
        Check.unsupported(house, () -> house.heat(kept, 1));
        house.pass(1);
        if (house.state(kept) == 'p') {
            Check.same(house.heat(kept, 1), 1);
        }
    }

    private static void wantsThePiece(Act act) {
        Gatherhouse house = workshop();
        house.heat(0, 10);
        for (int gone = 2; gone < 10; gone++) {
            house.pass(gone == 2 ? 2 : 1);
            Check.same(house.busy('g') + house.busy('s') + house.busy('f') + house.busy('b'), 0);
            Check.unsupported(house, () -> act.call().run(house, 0));
        }
        house.pass(1);
        act.call().run(house, 0);
    }

    private static void wantsRoles(Act act) {
        for (char role : "gsfb".toCharArray()) {
            Gatherhouse house = workshop();
            int seconds = keepBusy(house, role);
            if (act.roles().indexOf(role) >= 0) {
                Check.unsupported(house, () -> act.call().run(house, 0));
                house.pass(seconds - 1);
                Check.unsupported(house, () -> act.call().run(house, 0));
                house.pass(1);
            }
            act.call().run(house, 0);
        }
    }

    /** Has the role work on the piece 3; answers for how long. */
    private static int keepBusy(Gatherhouse house, char role) {
        switch (role) {
            case 'g':
                house.lay(3, 0, 1);
                return 15;
            case 's':
                house.swing(3, 0, 1);
                return 6;
            case 'f':
                house.blow(3, 0, 1);
                return 8;
            default:
                house.heat(3, 9);
                return 2;
        }
    }

    /** The piece 0 at 1060, the others below 1000. */
    private static Gatherhouse hot(int high) {
        Gatherhouse house = workshop(600, high);
        house.heat(0, 24);
        house.pass(24);
        Check.same(house.heatOf(0), 1060);
        return house;
    }

    private static void wantsHeat(Act act) {
        act.call().run(hot(1060), 0);
        Gatherhouse tooHot = hot(1059);
        Check.unsupported(tooHot, () -> act.call().run(tooHot, 0));
        act.call().run(workshop(868, 1100), 0);
    }

    private static void wantsAPipe(BoundTests.Call call) {
        Gatherhouse inLehr = workshop();
        Houses.crack(inLehr, 0);
        Check.unsupported(inLehr, () -> call.run(inLehr, 0));
        Gatherhouse joined = workshop();
        joined.join(3, 0);
        joined.pass(12);
        Check.same(joined.state(0), 'x');
        Check.unsupported(joined, () -> call.run(joined, 0));
        Gatherhouse cold = workshop();
        cold.pass(135);
        Check.same(cold.state(0), 'x');
        Check.same(cold.state(1), 'p');
        Check.unsupported(cold, () -> call.run(cold, 0));
        Gatherhouse done = withDone();
        Check.unsupported(done, () -> call.run(done, 0));
        done.sell(0);
        Check.unsupported(done, () -> call.run(done, 0));
    }

    /** The piece 0 is done, of two rings; the piece 1 is on a pipe. */
    private static Gatherhouse withDone() {
        Gatherhouse house = Houses.open();
        Houses.thinOnPipe(house, 0);
        house.split(0, 0);
        house.pass(4);
        Houses.annealed(house, 0);
        Check.same(house.state(0), 'd');
        Houses.ready(house, 0, 40);
        return house;
    }

    private static void heatTakesTheBoy() {
        for (int seconds : new int[] {1, 2, 60}) {
            Gatherhouse house = workshop();
            Check.same(house.heat(0, seconds), 1);
            Check.same(house.busy('b'), 2);
            Check.same(house.busy('g') + house.busy('s') + house.busy('f'), 0);
            Check.same(house.pay('b'), 1);
            house.pass(1);
            Check.same(house.busy('b'), 1);
            house.pass(1);
            Check.same(house.busy('b'), 0);
        }
    }

    private static void heatWantsThePiece() {
        for (int seconds : new int[] {3, 4, 60}) {
            Gatherhouse house = workshop();
            house.heat(0, seconds);
            house.pass(seconds - 1);
            Check.unsupported(house, () -> house.heat(0, 1));
            Check.unsupported(house, () -> house.blow(0, 0, 1));
            house.pass(1);
            Check.same(house.heat(0, 1), 1);
        }
        Gatherhouse brief = workshop();
        brief.heat(0, 1);
        Check.unsupported(brief, () -> brief.blow(0, 0, 1));
        brief.pass(1);
        Check.same(brief.blow(0, 0, 1), 33);
    }

    private static void heatWantsTheBoy() {
        Gatherhouse house = workshop();
        house.heat(3, 1);
        house.pass(1);
        Check.unsupported(house, () -> house.heat(0, 1));
        house.pass(1);
        Check.same(house.heat(0, 1), 1);
        Gatherhouse other = workshop();
        other.crack(3);
        other.pass(2);
        Check.unsupported(other, () -> other.heat(0, 1));
        other.pass(1);
        Check.same(other.heat(0, 1), 1);
    }

    private static void heatWantsAHole() {
        Gatherhouse house = workshop();
        Check.same(house.heat(2, 20), 1);
        house.pass(2);
        Check.same(house.heat(3, 30), 0);
        house.pass(17);
        Check.unsupported(house, () -> house.heat(0, 1));
        house.pass(1);
        Check.same(house.heat(0, 1), 0);
        Check.unsupported(house, () -> house.heat(1, 1));
        house.pass(2);
        Check.same(house.heat(1, 60), 0);
    }

    private static void heatWantsNoHeat() {
        Gatherhouse house = hot(1059);
        Check.same(house.heat(0, 1), 1);
        Gatherhouse coldest = workshop(868, 1100);
        Check.same(coldest.heat(0, 1), 1);
        Check.same(coldest.pass(1), 0);
        Check.same(coldest.heatOf(0), 876);
    }
}
