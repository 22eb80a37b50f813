/** Promises 8 to 11. */
final class LineTests {
    private static final int INVALID = RoofOrdinances.INVALID_ARGUMENT;

    private LineTests() {
    }

    static void all(Checks checks) {
        checks.test("promise 8: hang", LineTests::hang);
        checks.test("promise 8: the first reason that is so", LineTests::firstReason);
        checks.test("promise 8: both roofs of a gangway", LineTests::bothRoofs);
        checks.test("promise 8: coops near", LineTests::coopsNear);
        checks.test("promise 9: take", LineTests::take);
        checks.test("promise 10: walk", LineTests::walk);
        checks.test("promise 10: the first reason that is so", LineTests::firstReasonOfWalk);
        checks.test("promise 11: day", LineTests::day);
        checks.test("promise 11: the wind turns by the lot", LineTests::lots);
    }

    private static void hang(Checks c) {
        RoofOrdinances x = new RoofOrdinances();
        c.due("hang(3, 0)", x.hang(3, 0), 11);
        c.due("hang(0, 27)", x.hang(0, 27), 12);
        c.due("gangway(0, 3)", x.gangway(0, 3), 3);
        c.due("gangway(0, 4)", x.gangway(0, 4), 0);
        c.due("gangway(0, 5)", x.gangway(0, 5), 0);
        c.due("gangway(27, 3)", x.gangway(27, 3), 0);
        for (int gangway : new int[] {-1, 3, 7, 11, 15, 28, 31, 32}) {
            c.due("hang(0, " + gangway + ")", x.hang(0, gangway), INVALID);
        }
        c.due("hang(-1, 1)", x.hang(-1, 1), INVALID);
        c.due("hang(4, 1)", x.hang(4, 1), INVALID);
        c.due("hung", x.count(10), 2);
        c.due("refused", x.count(13), 0);
        c.due("hang(3, 0)", x.hang(3, 0), 2);
        c.due("refused", x.count(13), 1);
        c.due("a refused order is a change", x.count(17), 3);
        c.due("hung", x.count(10), 2);
    }

    private static void firstReason(Checks c) {
        RoofOrdinances x = new RoofOrdinances();
        x.hang(1, 5);
        x.owner(0, 3, 0, false);
        x.chimney(5);
        x.coop(5);
        c.due("line", x.hang(0, 5), 2);
        x.bears(5, 0);
        c.due("no gangway", x.hang(0, 5), 1);
        x.bears(5, 1);
        c.due("no key", x.hang(0, 5), 3);
        x.owner(0, 3, 65535, false);
        c.due("smoke", x.hang(0, 5), 4);
        x.chimney(5);
        c.due("coop", x.hang(0, 5), 5);
        x.owner(0, 3, 65535, true);
        c.due("truce", x.hang(0, 5), 11);
        c.due("refused", x.count(13), 5);
    }

    private static void bothRoofs(Checks c) {
        RoofOrdinances x = new RoofOrdinances();
        x.owner(0, 3, 1 << 4, false);
        x.owner(1, 3, 1 << 8, false);
        x.owner(2, 3, 1 << 4 | 1 << 8, false);
        c.due("key to the lesser one", x.hang(0, 20), 3);
        c.due("key to the greater one", x.hang(1, 20), 3);
        x.reach(0);
        x.chimney(4);
        c.due("smoke on the lesser one", x.hang(2, 20), 4);
        x.chimney(4);
        x.chimney(8);
        c.due("smoke on the greater one", x.hang(2, 20), 4);
        x.chimney(8);
        c.due("hang(2, 20)", x.hang(2, 20), 11);
    }

    private static void coopsNear(Checks c) {
        // The gangway 5 goes from the roof 5 to the roof 6.
        RoofOrdinances x = new RoofOrdinances();
        for (int roof = 0; roof < 16; roof++) {
            x.coop(roof);
            boolean isNear = roof == 1 || roof == 2 || roof >= 4 && roof <= 7 || roof == 9 || roof == 10;
            c.due("coop on " + roof, x.whyNotHang(0, 5), isNear ? 5 : 0);
            x.coop(roof);
        }
        // The roofs 3 and 4 have numbers in a row, but are no neighbours; nor are 12 and 0.
        x.coop(4);
        c.due("whyNotHang(0, 2)", x.whyNotHang(0, 2), 0);
        c.due("whyNotHang(0, 18)", x.whyNotHang(0, 18), 0);
        c.due("whyNotHang(0, 19)", x.whyNotHang(0, 19), 0);
        x.coop(4);
        x.coop(3);
        c.due("whyNotHang(0, 4)", x.whyNotHang(0, 4), 0);
        c.due("whyNotHang(0, 20)", x.whyNotHang(0, 20), 0);
        // Neighbours are told by their places, whatever the gangways bear.
        x.bears(2, 0);
        c.due("whyNotHang(0, 1)", x.whyNotHang(0, 1), 5);
    }

    private static void take(Checks c) {
        RoofOrdinances x = new RoofOrdinances();
        c.due("take(0, 0)", x.take(0, 0), 6);
        x.hang(0, 0);
        c.due("take(1, 0)", x.take(1, 0), 7);
        c.due("count(5)", x.count(5), 1);
        c.due("take(0, 0)", x.take(0, 0), 10);
        c.due("count(5)", x.count(5), 0);
        c.due("taken", x.count(11), 1);
        c.due("refused", x.count(13), 2);
        x.hang(2, 4);
        x.coop(4);
        x.coop(5);
        x.chimney(4);
        x.day();
        x.day();
        c.due("2 and (in the turned wind) 1 of soot, 2 and 2 of spots", x.take(2, 4), 17);
        x.owner(2, 3, 65535, true);
        x.chimney(4);
        x.hang(2, 4);
        c.due("a new line is clean", x.take(2, 4), 10);
        for (int gangway : new int[] {-1, 3, 7, 11, 15, 28, 31}) {
            c.due("take(0, " + gangway + ")", x.take(0, gangway), INVALID);
        }
        c.due("take(-1, 0)", x.take(-1, 0), INVALID);
        c.due("take(4, 0)", x.take(4, 0), INVALID);
        c.due("refused", x.count(13), 2);
    }

    private static void walk(Checks c) {
        RoofOrdinances x = new RoofOrdinances();
        c.due("walk(1, 5)", x.walk(1, 5), 16);
        c.due("walk(1, 5)", x.walk(1, 5), 15);
        c.due("walk(1, 21)", x.walk(1, 21), 19);
        c.due("walk(1, 21)", x.walk(1, 21), 15);
        c.due("walk(1, 4)", x.walk(1, 4), 14);
        c.due("walk(3, 27)", x.walk(3, 27), 21);
        c.due("walks", x.ownerOf(1, 7), 5);
        c.due("walks", x.ownerOf(3, 7), 1);
        c.due("walks", x.ownerOf(0, 7), 0);
        c.due("walk(1, 5)", x.walk(1, 5), RoofOrdinances.NOT_POSSIBLE);
        c.due("walk(1, 3)", x.walk(1, 3), INVALID);
        c.due("walk(1, 28)", x.walk(1, 28), INVALID);
        c.due("walk(1, -1)", x.walk(1, -1), INVALID);
        c.due("walk(-1, 0)", x.walk(-1, 0), INVALID);
        c.due("walk(4, 0)", x.walk(4, 0), INVALID);
        x.bears(5, 0);
        c.due("an error ahead of a reason", x.walk(1, 5), RoofOrdinances.NOT_POSSIBLE);
        c.due("refused", x.count(13), 0);
        c.due("ownerOf(1, 3)", x.ownerOf(1, 3), 4);
        RoofOrdinances y = new RoofOrdinances();
        c.due("walk(0, 1)", y.walk(0, 1), RoofOrdinances.NOT_POSSIBLE);
        c.due("an error is no change", y.count(17), 0);
    }

    private static void firstReasonOfWalk(Checks c) {
        RoofOrdinances x = new RoofOrdinances();
        x.hang(1, 0);
        x.owner(0, 6, 1, false);
        c.due("too weak", x.walk(0, 0), 8);
        x.bears(0, 6);
        c.due("line of another", x.walk(0, 0), 9);
        x.take(1, 0);
        c.due("no key", x.walk(0, 0), 3);
        x.bears(0, 0);
        c.due("no gangway", x.walk(0, 0), 1);
        c.due("refused", x.count(13), 4);
        c.due("walks", x.ownerOf(0, 7), 0);
        c.due("place", x.ownerOf(0, 3), 0);
        x.bears(0, 6);
        x.owner(0, 6, 3, false);
        x.hang(0, 0);
        x.owner(0, 6, 2, false);
        c.due("over one's own line, without the key to here", x.walk(0, 0), 11);
        c.due("no key back", x.walk(0, 0), 3);
    }

    private static void day(Checks c) {
        RoofOrdinances x = new RoofOrdinances();
        c.due("day()", x.day(), 0);
        x = new RoofOrdinances();
        x.wind(1);
        x.owner(1, 3, 65535, true);
        x.hang(0, 0);
        x.hang(1, 1);
        x.hang(0, 27);
        x.hang(0, 20);
        x.chimney(0);
        x.coop(1);
        x.coop(2);
        c.due("day()", x.day(), 2);
        c.due("count(0)", x.count(0), 1);
        c.due("soot with one roof in smoke", x.gangway(0, 4), 1);
        c.due("soot with both", x.gangway(20, 4), 2);
        c.due("soot of 1", x.gangway(1, 4), 0);
        c.due("soot of 27", x.gangway(27, 4), 0);
        c.due("spots with one coop", x.gangway(0, 5), 1);
        c.due("spots with a truce", x.gangway(1, 5), 0);
        // A coop near, but on none of its roofs, soils nothing.
        c.due("spots of 20", x.gangway(20, 5), 0);
        c.due("clean", x.count(6), 2);
        RoofOrdinances y = new RoofOrdinances();
        y.hang(0, 1);
        y.coop(1);
        y.coop(2);
        c.due("day()", y.day(), 0);
        c.due("spots with two coops", y.gangway(1, 5), 2);
        c.due("count(8)", y.count(8), 2);
        y.owner(0, 3, 65535, true);
        c.due("a truce doesn't clean", y.day(), 0);
        c.due("count(8)", y.count(8), 2);
    }

    private static void lots(Checks c) {
        RoofOrdinances x = new RoofOrdinances();
        int lot = 1;
        int wind = 0;
        for (int day = 1; day <= 100; day++) {
            x.day();
            lot = (421 * lot + 1663) % 10000;
            wind = lot % 4 == 0 ? (wind + 1) % 4 : wind;
            c.due("lot of day " + day, x.count(15), lot);
            c.due("wind of day " + day, x.count(1), wind);
            c.due("day", x.count(0), day);
        }
    }
}
