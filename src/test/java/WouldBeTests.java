/** Promises 25 to 28. */
final class WouldBeTests {
    private static final int INVALID = RoofOrdinances.INVALID_ARGUMENT;

    private WouldBeTests() {
    }

    static void all(Checks checks) {
        checks.test("promise 25: ifWind", WouldBeTests::ifWind);
        checks.test("promise 26: bestWind", WouldBeTests::bestWind);
        checks.test("promise 26: every wind can be the best", WouldBeTests::everyBestWind);
        checks.test("promise 27: ifDays", WouldBeTests::ifDays);
        checks.test("promise 27: ifDays tells what the days bring", WouldBeTests::ifDaysAndDays);
        checks.test("promise 28: bestPlace", WouldBeTests::bestPlace);
    }

    // Lines on the roofs 9-10, 5-6 and 8-12, and then a chimney on the roof 5.
    private static RoofOrdinances smokyCity() {
        RoofOrdinances x = new RoofOrdinances();
        x.hang(0, 9);
        x.hang(1, 2);
        x.hang(2, 24);
        x.chimney(5);
        return x;
    }

    private static void ifWind(Checks c) {
        RoofOrdinances x = smokyCity();
        x.chimney(0);
        int[] want = {1, 2, 0, 0};
        for (int to = 0; to < 4; to++) {
            c.due("ifWind(" + to + ")", x.ifWind(to), want[to]);
        }
        x.hang(3, 27);
        x.chimney(11);
        want = new int[] {2, 3, 2, 2};
        for (int to = 0; to < 4; to++) {
            c.due("ifWind(" + to + ")", x.ifWind(to), want[to]);
        }
        c.due("the wind stays", x.count(1), 0);
        c.due("ifWind(-1)", x.ifWind(-1), INVALID);
        c.due("ifWind(4)", x.ifWind(4), INVALID);
    }

    private static void bestWind(Checks c) {
        RoofOrdinances x = new RoofOrdinances();
        x.wind(3);
        c.due("without lines", x.bestWind(), 0);
        x = smokyCity();
        x.chimney(0);
        x.wind(1);
        c.due("2 and 3 are as good", x.bestWind(), 2);
        c.due("the wind stays", x.count(1), 1);
        x.chimney(0);
        c.due("0 is as good as 2 and 3", x.bestWind(), 0);
        x.wind(0);
        RoofOrdinances y = new RoofOrdinances();
        y.hang(0, 5);
        y.hang(0, 4);
        y.hang(0, 21);
        y.wind(3);
        y.chimney(4);
        y.chimney(1);
        y.chimney(6);
        c.due("north is the best", y.bestWind(), 3);
    }

    // Around a chimney on 5 each wind smokes one line alone: every set of such lines is looked at.
    private static void everyBestWind(Checks c) {
        int[] lineOfWind = {6, 25, 20, 0};
        for (int hanging = 0; hanging < 16; hanging++) {
            RoofOrdinances x = new RoofOrdinances();
            x.reach(1);
            int best = 0;
            for (int to = 3; to >= 0; to--) {
                if ((hanging >> to & 1) == 1) {
                    x.hang(to, lineOfWind[to]);
                } else {
                    best = to;
                }
            }
            x.chimney(5);
            for (int to = 0; to < 4; to++) {
                c.due("lines " + hanging + ", ifWind(" + to + ")", x.ifWind(to), hanging >> to & 1);
            }
            c.due("lines " + hanging + ", bestWind()", x.bestWind(), best);
        }
    }

    private static void ifDays(Checks c) {
        RoofOrdinances x = smokyCity();
        x.coop(8);
        // East on the first day, south from the second one on (till the fifth).
        c.due("ifDays(1, 0)", x.ifDays(1, 0), 2);
        c.due("ifDays(1, 1)", x.ifDays(1, 1), 0);
        c.due("ifDays(1, 2)", x.ifDays(1, 2), 1);
        c.due("ifDays(1, 3)", x.ifDays(1, 3), 1);
        c.due("ifDays(3, 0)", x.ifDays(3, 0), 1);
        c.due("ifDays(3, 1)", x.ifDays(3, 1), 2);
        c.due("ifDays(3, 2)", x.ifDays(3, 2), 3);
        c.due("ifDays(3, 3)", x.ifDays(3, 3), 1);
        c.due("no day passes", x.count(0), 0);
        c.due("the lot stays", x.count(15), 1);
        c.due("the wind stays", x.count(1), 0);
        c.due("the lines stay", x.count(6), 3);
        c.due("ifDays(0, 0)", x.ifDays(0, 0), INVALID);
        c.due("ifDays(31, 0)", x.ifDays(31, 0), INVALID);
        c.due("ifDays(1, -1)", x.ifDays(1, -1), INVALID);
        c.due("ifDays(1, 4)", x.ifDays(1, 4), INVALID);
    }

    private static void ifDaysAndDays(Checks c) {
        RoofOrdinances x = smokyCity();
        x.coop(8);
        x.coop(3);
        x.owner(1, 3, 65535, true);
        int[][] want = new int[31][4];
        for (int days = 1; days <= 30; days++) {
            for (int what = 0; what < 4; what++) {
                want[days][what] = x.ifDays(days, what);
            }
        }
        for (int days = 1; days <= 30; days++) {
            c.due("clean after " + days, x.day(), want[days][0]);
            c.due("soot after " + days, x.count(7), want[days][1]);
            c.due("spots after " + days, x.count(8), want[days][2]);
            c.due("wind after " + days, x.count(1), want[days][3]);
        }
    }

    private static void bestPlace(Checks c) {
        RoofOrdinances x = new RoofOrdinances();
        c.due("bestPlace(0)", x.bestPlace(0), 0);
        x.hang(0, 0);
        c.due("bestPlace(0)", x.bestPlace(0), 1);
        x.take(0, 0);
        x.reach(1);
        x.chimney(1);
        // By smoke of the chimney on 1: 2-3 by one wind, 6-7 by none.
        c.due("bestPlace(0)", x.bestPlace(0), 6);
        x.owner(0, 3, 1 << 2 | 1 << 3, false);
        c.due("where it can be hung now only", x.bestPlace(0), RoofOrdinances.NOT_FOUND);
        x.wind(1);
        c.due("bestPlace(0)", x.bestPlace(0), 2);
        x.owner(0, 3, 1 << 2 | 1 << 3 | 1 << 7, false);
        c.due("bestPlace(0)", x.bestPlace(0), 19);
        x.owner(0, 3, 0, false);
        c.due("without keys", x.bestPlace(0), RoofOrdinances.NOT_FOUND);
        RoofOrdinances y = new RoofOrdinances();
        y.reach(3);
        y.chimney(12);
        y.chimney(13);
        y.wind(1);
        y.owner(0, 3, 1 << 0 | 1 << 4 | 1 << 5, false);
        c.due("both roofs by one wind count 1: 4 is as good as 16", y.bestPlace(0), 4);
        RoofOrdinances z = new RoofOrdinances();
        z.reach(1);
        z.chimney(1);
        z.chimney(9);
        z.chimney(7);
        z.owner(0, 3, 1 << 5 | 1 << 6, false);
        c.due("by smoke of three winds", z.bestPlace(0), 5);
        z.chimney(4);
        c.due("in smoke now", z.bestPlace(0), RoofOrdinances.NOT_FOUND);
        c.due("bestPlace(-1)", x.bestPlace(-1), INVALID);
        c.due("bestPlace(4)", x.bestPlace(4), INVALID);
        c.due("nothing hangs", y.count(5), 0);
    }
}
