/** Promises 1 to 7. */
final class CityTests {
    private static final int INVALID = RoofOrdinances.INVALID_ARGUMENT;
    private static final int[] NO_GANGWAYS = {-1, 3, 7, 11, 15, 28, 29, 30, 31, 32,
        Integer.MIN_VALUE, Integer.MAX_VALUE};
    private static final int[] NO_ROOFS = {-1, 16, 32, Integer.MIN_VALUE, Integer.MAX_VALUE};

    private CityTests() {
    }

    static void all(Checks checks) {
        checks.test("promise 1: a new object", CityTests::newObject);
        checks.test("promise 2: bears", CityTests::bears);
        checks.test("promise 2: a line falls", CityTests::lineFalls);
        checks.test("promise 3: wind", CityTests::wind);
        checks.test("promise 4: chimney", CityTests::chimney);
        checks.test("promise 4: smoke at the edges", CityTests::smokeAtEdges);
        checks.test("promise 4: smoke of every roof", CityTests::smokeOfEveryRoof);
        checks.test("promise 5: coop", CityTests::coop);
        checks.test("promise 6: owner", CityTests::owner);
        checks.test("promise 7: reach", CityTests::reach);
    }

    private static void newObject(Checks c) {
        RoofOrdinances x = new RoofOrdinances();
        int[] counts = {0, 0, 0, 0, 0, 0, 0, 0, 0, 0, 0, 0, 0, 0, 2, 1, 0, 0};
        for (int what = 0; what < counts.length; what++) {
            c.due("count(" + what + ")", x.count(what), counts[what]);
        }
        int gangways = 0;
        for (int gangway = 0; gangway < 28; gangway++) {
            if (gangway < 16 && gangway % 4 == 3) {
                c.due("gangway(" + gangway + ", 0)", x.gangway(gangway, 0), INVALID);
            } else {
                gangways++;
                c.due("gangway(" + gangway + ", 0)", x.gangway(gangway, 0), 5);
                c.due("gangway(" + gangway + ", 3)", x.gangway(gangway, 3), -4);
            }
        }
        c.due("gangways", gangways, 24);
        for (int owner = 0; owner < 4; owner++) {
            c.due("weight", x.ownerOf(owner, 0), 3);
            c.due("keys", x.ownerOf(owner, 1), 65535);
            c.due("truce", x.ownerOf(owner, 2), 0);
            c.due("place", x.ownerOf(owner, 3), 5 * owner);
            c.due("lines", x.ownerOf(owner, 4), 0);
            c.due("walks", x.ownerOf(owner, 7), 0);
        }
        c.due("undo()", x.undo(), -2);
        c.due("restore()", x.restore(), -2);
        c.due("why(0)", x.why(0), -4);
        RoofOrdinances other = new RoofOrdinances();
        x.chimney(3);
        c.due("another object's chimneys", other.count(2), 0);
    }

    private static void bears(Checks c) {
        RoofOrdinances x = new RoofOrdinances();
        c.due("bears(0, 9)", x.bears(0, 9), 5);
        c.due("bears(0, 0)", x.bears(0, 0), 9);
        c.due("bears(0, 0)", x.bears(0, 0), 0);
        c.due("bears(0, 1)", x.bears(0, 1), 0);
        c.due("gangway(0, 0)", x.gangway(0, 0), 1);
        c.due("gangway(1, 0)", x.gangway(1, 0), 5);
        c.due("gangway(16, 0)", x.gangway(16, 0), 5);
        c.due("bears(27, 7)", x.bears(27, 7), 5);
        c.due("gangway(27, 0)", x.gangway(27, 0), 7);
        for (int gangway : NO_GANGWAYS) {
            c.due("bears(" + gangway + ", 5)", x.bears(gangway, 5), INVALID);
        }
        c.due("bears(0, -1)", x.bears(0, -1), INVALID);
        c.due("bears(0, 10)", x.bears(0, 10), INVALID);
        c.due("nothing changed", x.gangway(0, 0), 1);
    }

    private static void lineFalls(Checks c) {
        RoofOrdinances x = new RoofOrdinances();
        x.hang(2, 20);
        x.hang(2, 21);
        x.bears(20, 1);
        c.due("it hangs as long as it bears 1", x.count(5), 2);
        x.bears(20, 0);
        c.due("lines", x.count(5), 1);
        c.due("fallen", x.count(12), 1);
        c.due("taken", x.count(11), 0);
        c.due("gangway(20, 3)", x.gangway(20, 3), -4);
        c.due("gangway(20, 4)", x.gangway(20, 4), -4);
        c.due("gangway(20, 5)", x.gangway(20, 5), -4);
        x.bears(20, 0);
        x.bears(0, 0);
        c.due("without a line none falls", x.count(12), 1);
        x.bears(20, 5);
        c.due("it doesn't come back", x.count(5), 1);
    }

    private static void wind(Checks c) {
        RoofOrdinances x = new RoofOrdinances();
        c.due("wind(3)", x.wind(3), 0);
        c.due("wind(1)", x.wind(1), 3);
        c.due("wind(1)", x.wind(1), 1);
        c.due("wind(-1)", x.wind(-1), INVALID);
        c.due("wind(4)", x.wind(4), INVALID);
        c.due("count(1)", x.count(1), 1);
        c.due("count(17)", x.count(17), 3);
    }

    private static void chimney(Checks c) {
        RoofOrdinances x = new RoofOrdinances();
        c.due("chimney(0)", x.chimney(0), 3);
        c.due("chimney(1)", x.chimney(1), 4);
        c.due("chimney(0)", x.chimney(0), 3);
        c.due("roof(0, 0)", x.roof(0, 0), 0);
        c.due("roof(1, 0)", x.roof(1, 0), 1);
        c.due("chimney(1)", x.chimney(1), 0);
        c.due("chimney(15)", x.chimney(15), 1);
        for (int roof : NO_ROOFS) {
            c.due("chimney(" + roof + ")", x.chimney(roof), INVALID);
        }
        c.due("count(2)", x.count(2), 1);
    }

    // Roofs in smoke of a chimney on 5, by wind and REACH.
    private static void smokeAtEdges(Checks c) {
        int[][] smoke = {
            {1 << 5, 1 << 5 | 1 << 6, 1 << 5 | 1 << 6 | 1 << 7, 1 << 5 | 1 << 6 | 1 << 7},
            {1 << 5, 1 << 5 | 1 << 9, 1 << 5 | 1 << 9 | 1 << 13, 1 << 5 | 1 << 9 | 1 << 13},
            {1 << 5, 1 << 5 | 1 << 4, 1 << 5 | 1 << 4, 1 << 5 | 1 << 4},
            {1 << 5, 1 << 5 | 1 << 1, 1 << 5 | 1 << 1, 1 << 5 | 1 << 1}};
        for (int to = 0; to < 4; to++) {
            RoofOrdinances x = new RoofOrdinances();
            x.chimney(5);
            x.wind(to);
            for (int reach = 0; reach < 4; reach++) {
                x.reach(reach);
                for (int roof = 0; roof < 16; roof++) {
                    c.due("wind " + to + ", REACH " + reach + ", roof(" + roof + ", 1)",
                            x.roof(roof, 1), smoke[to][reach] >> roof & 1);
                }
            }
        }
    }

    private static void smokeOfEveryRoof(Checks c) {
        for (int to = 0; to < 4; to++) {
            RoofOrdinances x = new RoofOrdinances();
            x.wind(to);
            for (int reach = 0; reach < 4; reach++) {
                x.reach(reach);
                for (int roof = 0; roof < 16; roof++) {
                    int[] ahead = {3 - roof % 4, 3 - roof / 4, roof % 4, roof / 4};
                    c.due("wind " + to + ", REACH " + reach + ", chimney(" + roof + ")",
                            x.chimney(roof), 1 + Math.min(reach, ahead[to]));
                    c.due("without chimneys", x.chimney(roof), 0);
                }
            }
        }
    }

    private static void coop(Checks c) {
        RoofOrdinances x = new RoofOrdinances();
        c.due("coop(0)", x.coop(0), 1);
        c.due("coop(15)", x.coop(15), 2);
        c.due("coop(0)", x.coop(0), 1);
        c.due("roof(0, 3)", x.roof(0, 3), 0);
        c.due("roof(15, 3)", x.roof(15, 3), 1);
        for (int roof : NO_ROOFS) {
            c.due("coop(" + roof + ")", x.coop(roof), INVALID);
        }
        c.due("count(4)", x.count(4), 1);
    }

    private static void owner(Checks c) {
        RoofOrdinances x = new RoofOrdinances();
        c.due("owner(1, 9, 0, true)", x.owner(1, 9, 0, true), 3);
        c.due("ownerOf(1, 0)", x.ownerOf(1, 0), 9);
        c.due("ownerOf(1, 1)", x.ownerOf(1, 1), 0);
        c.due("ownerOf(1, 2)", x.ownerOf(1, 2), 1);
        c.due("ownerOf(0, 0)", x.ownerOf(0, 0), 3);
        c.due("ownerOf(0, 1)", x.ownerOf(0, 1), 65535);
        c.due("ownerOf(0, 2)", x.ownerOf(0, 2), 0);
        c.due("ownerOf(2, 2)", x.ownerOf(2, 2), 0);
        c.due("owner(1, 1, 65535, false)", x.owner(1, 1, 65535, false), 9);
        c.due("ownerOf(1, 2)", x.ownerOf(1, 2), 0);
        c.due("owner(-1, 3, 0, true)", x.owner(-1, 3, 0, true), INVALID);
        c.due("owner(4, 3, 0, true)", x.owner(4, 3, 0, true), INVALID);
        c.due("owner(1, 0, 0, true)", x.owner(1, 0, 0, true), INVALID);
        c.due("owner(1, 10, 0, true)", x.owner(1, 10, 0, true), INVALID);
        c.due("owner(1, 3, -1, true)", x.owner(1, 3, -1, true), INVALID);
        c.due("owner(1, 3, 65536, true)", x.owner(1, 3, 65536, true), INVALID);
        c.due("ownerOf(1, 0)", x.ownerOf(1, 0), 1);
        c.due("ownerOf(1, 1)", x.ownerOf(1, 1), 65535);
        c.due("ownerOf(1, 2)", x.ownerOf(1, 2), 0);
        c.due("count(17)", x.count(17), 2);
    }

    private static void reach(Checks c) {
        RoofOrdinances x = new RoofOrdinances();
        c.due("reach(0)", x.reach(0), 2);
        c.due("reach(3)", x.reach(3), 0);
        c.due("reach(4)", x.reach(4), INVALID);
        c.due("reach(-1)", x.reach(-1), INVALID);
        c.due("count(14)", x.count(14), 3);
        c.due("chimney(8)", x.chimney(8), 4);
    }
}
