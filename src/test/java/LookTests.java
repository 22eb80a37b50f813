/** Promises 17 to 24. */
final class LookTests {
    private static final int INVALID = RoofOrdinances.INVALID_ARGUMENT;
    private static final int NOT_FOUND = RoofOrdinances.NOT_FOUND;

    private LookTests() {
    }

    static void all(Checks checks) {
        checks.test("promise 17: roof", LookTests::roof);
        checks.test("promise 17: roofs that can be come to", LookTests::roofsFrom);
        checks.test("promise 18: gangway", LookTests::gangway);
        checks.test("promise 19: ownerOf", LookTests::ownerOf);
        checks.test("promise 20: whyNotHang", LookTests::whyNotHang);
        checks.test("promise 21: strongest", LookTests::strongest);
        checks.test("promise 22: steps", LookTests::steps);
        checks.test("promise 22: each reason closes a way", LookTests::closedWays);
        checks.test("promise 23: count", LookTests::count);
        checks.test("promise 24: cleanness", LookTests::cleanness);
    }

    private static void dueRoof(Checks c, RoofOrdinances x, int roof, int... want) {
        for (int what = 0; what < want.length; what++) {
            c.due("roof(" + roof + ", " + what + ")", x.roof(roof, what), want[what]);
        }
    }

    private static void roof(Checks c) {
        RoofOrdinances x = new RoofOrdinances();
        dueRoof(c, x, 0, 0, 0, 0, 0, 1, 2, 0, 16);
        dueRoof(c, x, 5, 0, 0, 0, 0, 2, 4, 0, 16);
        dueRoof(c, x, 7, 0, 0, 0, 0, 0, 3, 0, 16);
        dueRoof(c, x, 15, 0, 0, 0, 0, 8, 2, 0, 16);
        x.hang(0, 4);
        x.hang(3, 5);
        x.hang(3, 17);
        x.walk(1, 5);
        x.walk(2, 9);
        x.walk(2, 21);
        x.walk(0, 16);
        x.walk(0, 4);
        x.chimney(4);
        x.chimney(5);
        x.chimney(7);
        x.coop(5);
        x.bears(21, 0);
        dueRoof(c, x, 5, 1, 1, 2, 1, 1 | 2 | 4, 3, 3, 16);
        dueRoof(c, x, 7, 1, 1, 2, 0, 0, 3, 0, 16);
        dueRoof(c, x, 6, 0, 1, 2, 0, 0, 4, 1, 16);
        dueRoof(c, x, 8, 0, 0, 0, 0, 0, 3, 0, 16);
        x.chimney(0);
        x.bears(0, 0);
        dueRoof(c, x, 0, 1, 1, 1, 0, 0, 1, 0, 16);
        dueRoof(c, x, 1, 0, 1, 1, 0, 0, 2, 1, 16);
        c.due("roof(-1, 0)", x.roof(-1, 0), INVALID);
        c.due("roof(16, 0)", x.roof(16, 0), INVALID);
        c.due("roof(0, -1)", x.roof(0, -1), INVALID);
        c.due("roof(0, 8)", x.roof(0, 8), INVALID);
    }

    private static void roofsFrom(Checks c) {
        RoofOrdinances x = new RoofOrdinances();
        for (int gangway = 20; gangway < 24; gangway++) {
            x.bears(gangway, 0);
        }
        c.due("the upper half", x.roof(0, 7), 8);
        c.due("the lower half", x.roof(15, 7), 8);
        x.bears(23, 1);
        x.hang(0, 23);
        x.owner(1, 9, 0, false);
        c.due("whatever lines, keys and weights", x.roof(0, 7), 16);
        x.bears(0, 0);
        x.bears(16, 0);
        c.due("a roof alone", x.roof(0, 7), 1);
        c.due("the others", x.roof(1, 7), 15);
        // The longest way goes through all roofs: 0 to 3, 7 to 4, 8 to 11, 15 to 12.
        RoofOrdinances snake = new RoofOrdinances();
        for (int gangway = 16; gangway < 28; gangway++) {
            if (gangway != 19 && gangway != 20 && gangway != 27) {
                snake.bears(gangway, 0);
            }
        }
        for (int roof = 0; roof < 16; roof++) {
            c.due("snake roof(" + roof + ", 7)", snake.roof(roof, 7), 16);
        }
        c.due("steps(0, 12)", snake.steps(0, 12), 15);
        c.due("strongest(12, 0, 1)", snake.strongest(12, 0, 1), 5);
        c.due("strongest(0, 12, 1)", snake.strongest(0, 12, 1), 5);
    }

    private static void gangway(Checks c) {
        RoofOrdinances x = new RoofOrdinances();
        for (int gangway = 0; gangway < 28; gangway++) {
            boolean across = gangway >= 16;
            if (across || gangway % 4 != 3) {
                int lesser = across ? gangway - 16 : gangway;
                c.due("gangway(" + gangway + ", 1)", x.gangway(gangway, 1), lesser);
                c.due("gangway(" + gangway + ", 2)", x.gangway(gangway, 2), across ? lesser + 4 : lesser + 1);
            }
        }
        x.bears(24, 8);
        x.hang(3, 24);
        x.coop(8);
        x.chimney(12);
        x.day();
        int[] want = {8, 8, 12, 3, 1, 1, 1};
        for (int what = 0; what < want.length; what++) {
            c.due("gangway(24, " + what + ")", x.gangway(24, what), want[what]);
        }
        c.due("gangway(13, 6)", x.gangway(13, 6), 0);
        x.wind(0);
        x.bears(12, 0);
        c.due("without a gangway", x.gangway(12, 6), 2);
        for (int what = 3; what < 6; what++) {
            c.due("gangway(12, " + what + ")", x.gangway(12, what), NOT_FOUND);
        }
        c.due("gangway(12, 7)", x.gangway(12, 7), INVALID);
        c.due("gangway(12, -1)", x.gangway(12, -1), INVALID);
        for (int gangway : new int[] {-1, 3, 7, 11, 15, 28, 31, 32}) {
            c.due("gangway(" + gangway + ", 3)", x.gangway(gangway, 3), INVALID);
        }
    }

    private static void dueOwner(Checks c, RoofOrdinances x, int owner, int... want) {
        for (int what = 0; what < want.length; what++) {
            c.due("ownerOf(" + owner + ", " + what + ")", x.ownerOf(owner, what), want[what]);
        }
    }

    private static void ownerOf(Checks c) {
        RoofOrdinances x = new RoofOrdinances();
        dueOwner(c, x, 0, 3, 65535, 0, 0, 0, 0, 2, 0, 24);
        dueOwner(c, x, 1, 3, 65535, 0, 5, 0, 0, 4, 0, 24);
        x.hang(1, 5);
        x.hang(1, 12);
        x.hang(0, 21);
        x.chimney(12);
        x.day();
        x.wind(0);
        dueOwner(c, x, 1, 3, 65535, 0, 5, 2, 1, 3, 0, 16);
        x.bears(17, 2);
        dueOwner(c, x, 1, 3, 65535, 0, 5, 2, 1, 2, 0, 16);
        x.walk(1, 5);
        x.walk(1, 5);
        x.walk(1, 17);
        dueOwner(c, x, 1, 3, 65535, 0, 5, 2, 1, 2, 2, 16);
        x.coop(0);
        // The gangways 0, 1, 4, 16, 17 and 20 are near that coop.
        dueOwner(c, x, 1, 3, 65535, 0, 5, 2, 1, 2, 2, 10);
        x.owner(1, 5, 65535 - 16, true);
        dueOwner(c, x, 1, 5, 65535 - 16, 1, 5, 2, 1, 1, 2, 13);
        x.hang(0, 0);
        x.owner(0, 3, 65535, true);
        x.hang(0, 0);
        dueOwner(c, x, 0, 3, 65535, 1, 0, 2, 2, 2, 0, 15);
        c.due("ownerOf(-1, 0)", x.ownerOf(-1, 0), INVALID);
        c.due("ownerOf(4, 0)", x.ownerOf(4, 0), INVALID);
        c.due("ownerOf(0, -1)", x.ownerOf(0, -1), INVALID);
        c.due("ownerOf(0, 9)", x.ownerOf(0, 9), INVALID);
    }

    private static void whyNotHang(Checks c) {
        RoofOrdinances x = new RoofOrdinances();
        c.due("whyNotHang(0, 0)", x.whyNotHang(0, 0), 0);
        c.due("nothing hangs", x.count(5), 0);
        c.due("no change", x.count(17), 0);
        x.bears(0, 0);
        x.hang(1, 1);
        x.owner(2, 3, 0, false);
        x.chimney(15);
        x.coop(8);
        c.due("whyNotHang(0, 0)", x.whyNotHang(0, 0), 1);
        c.due("whyNotHang(1, 1)", x.whyNotHang(1, 1), 2);
        c.due("whyNotHang(2, 2)", x.whyNotHang(2, 2), 3);
        c.due("whyNotHang(0, 14)", x.whyNotHang(0, 14), 4);
        c.due("whyNotHang(0, 21)", x.whyNotHang(0, 21), 5);
        c.due("it is not counted", x.count(13), 0);
        for (int gangway : new int[] {-1, 3, 7, 11, 15, 28, 31, 32}) {
            c.due("whyNotHang(0, " + gangway + ")", x.whyNotHang(0, gangway), INVALID);
        }
        c.due("whyNotHang(-1, 0)", x.whyNotHang(-1, 0), INVALID);
        c.due("whyNotHang(4, 0)", x.whyNotHang(4, 0), INVALID);
    }

    private static void dueStrongest(Checks c, RoofOrdinances x, int from, int to, int want) {
        for (int way = 0; way < 2; way++) {
            c.due("strongest(" + from + ", " + to + ", " + way + ")", x.strongest(from, to, way), want);
            c.due("strongest(" + to + ", " + from + ", " + way + ")", x.strongest(to, from, way), want);
        }
    }

    private static void strongest(Checks c) {
        RoofOrdinances x = new RoofOrdinances();
        dueStrongest(c, x, 0, 15, 5);
        dueStrongest(c, x, 7, 7, 10);
        // A way round, 0 4 8 9 10 6, is stronger than the straight one.
        for (int gangway : new int[] {16, 20, 8, 9, 22}) {
            x.bears(gangway, 8);
        }
        dueStrongest(c, x, 0, 6, 8);
        x.bears(9, 7);
        dueStrongest(c, x, 0, 6, 7);
        dueStrongest(c, x, 0, 9, 8);
        dueStrongest(c, x, 0, 15, 5);
        x.hang(3, 9);
        x.owner(0, 9, 0, false);
        dueStrongest(c, x, 0, 6, 7);
        x.bears(14, 1);
        x.bears(27, 0);
        dueStrongest(c, x, 15, 0, 1);
        x.bears(14, 0);
        dueStrongest(c, x, 15, 0, NOT_FOUND);
        dueStrongest(c, x, 15, 15, 10);
        x.bears(0, 9);
        dueStrongest(c, x, 0, 1, 9);
        for (int bad : new int[] {-1, 16}) {
            c.due("strongest(" + bad + ", 0, 0)", x.strongest(bad, 0, 0), INVALID);
            c.due("strongest(0, " + bad + ", 1)", x.strongest(0, bad, 1), INVALID);
            c.due("strongest(" + bad + ", " + bad + ", 0)", x.strongest(bad, bad, 0), INVALID);
        }
        c.due("strongest(0, 1, 2)", x.strongest(0, 1, 2), INVALID);
        c.due("strongest(0, 0, -1)", x.strongest(0, 0, -1), INVALID);
        c.due("no change", x.gangway(0, 0), 9);
    }

    private static void steps(Checks c) {
        RoofOrdinances x = new RoofOrdinances();
        for (int roof = 0; roof < 16; roof++) {
            c.due("steps(0, " + roof + ")", x.steps(0, roof), roof / 4 + roof % 4);
            c.due("steps(3, " + roof + ")", x.steps(3, roof), 6 - roof / 4 - roof % 4);
        }
        x.bears(0, 2);
        c.due("round a weak gangway", x.steps(0, 1), 3);
        c.due("the owner stays", x.ownerOf(0, 3), 0);
        c.due("no walk is counted", x.ownerOf(0, 7), 0);
        c.due("nothing is refused", x.count(13), 0);
        c.due("steps(-1, 0)", x.steps(-1, 0), INVALID);
        c.due("steps(4, 0)", x.steps(4, 0), INVALID);
        c.due("steps(0, -1)", x.steps(0, -1), INVALID);
        c.due("steps(0, 16)", x.steps(0, 16), INVALID);
    }

    private static void closedWays(Checks c) {
        RoofOrdinances x = new RoofOrdinances();
        x.bears(0, 0);
        x.hang(2, 16);
        c.due("another's line", x.steps(0, 1), NOT_FOUND);
        c.due("the line is the owner's own", x.steps(2, 0), 4);
        x.take(2, 16);
        x.hang(0, 16);
        c.due("the owner's own line", x.steps(0, 1), 3);
        x.owner(0, 5, 65535, false);
        c.due("it bears as much as the owner weighs", x.steps(0, 1), 3);
        x.owner(0, 6, 65535, false);
        c.due("too heavy", x.steps(0, 1), NOT_FOUND);
        x.owner(0, 1, 65535 - 16, false);
        c.due("no key on the way", x.steps(0, 1), NOT_FOUND);
        x.owner(0, 1, 65535 - 1, false);
        c.due("no key to where the owner is", x.steps(0, 1), 3);
        c.due("steps(0, 0)", x.steps(0, 0), 0);
        x.owner(0, 1, 65535 - 2, false);
        c.due("no key to the roof itself", x.steps(0, 1), NOT_FOUND);
    }

    private static void count(Checks c) {
        RoofOrdinances x = new RoofOrdinances();
        x.hang(0, 0);
        x.hang(0, 4);
        x.hang(1, 26);
        x.hang(1, 27);
        x.hang(1, 24);
        x.take(1, 24);
        x.hang(1, 26);
        x.bears(27, 0);
        x.coop(5);
        x.coop(14);
        x.chimney(1);
        x.chimney(3);
        x.day();
        Texts.put(x, "h0:");
        int[] want = {1, 1, 2, 5, 2, 3, 0, 1, 2, 1, 5, 1, 1, 1, 2, 2084, 3, 4};
        // The wind blows to the south now: the roofs 1, 5, 9 and 3, 7, 11 are in smoke.
        want[3] = 6;
        want[9] = 2;
        for (int what = 0; what < want.length; what++) {
            c.due("count(" + what + ")", x.count(what), want[what]);
        }
        c.due("count(-1)", x.count(-1), INVALID);
        c.due("count(18)", x.count(18), INVALID);
    }

    private static void cleanness(Checks c) {
        RoofOrdinances x = new RoofOrdinances();
        c.dueDouble("cleanness()", x.cleanness(), 1.0);
        x.hang(0, 0);
        x.hang(0, 14);
        x.hang(0, 10);
        c.dueDouble("cleanness()", x.cleanness(), 1.0);
        x.chimney(0);
        x.day();
        c.dueDouble("cleanness()", x.cleanness(), 2.0 / 3.0);
        x.coop(14);
        x.day();
        c.dueDouble("cleanness()", x.cleanness(), 1.0 / 3.0);
        x.take(0, 10);
        c.dueDouble("cleanness()", x.cleanness(), 0.0);
        x.take(0, 0);
        x.take(0, 14);
        c.dueDouble("cleanness()", x.cleanness(), 1.0);
    }
}
