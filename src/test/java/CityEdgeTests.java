/** The sentences of promises 1 to 7, and of their terms, that name a boundary case: a test for each. */
final class CityEdgeTests {
    private static final int INVALID = Edges.INVALID;

    private CityEdgeTests() {
    }

    static void all(Checks checks) {
        newCity(checks);
        newOwners(checks);
        bearsRanges(checks);
        bearsNothing(checks);
        wind(checks);
        chimney(checks);
        smokeAtTheEdge(checks);
        smokeByReach(checks);
        coop(checks);
        ownerRanges(checks);
        ownerChanges(checks);
        reach(checks);
    }

    private static void newCity(Checks checks) {
        checks.test("1: a new city has no line, over no gangway", c -> {
            RoofOrdinances x = new RoofOrdinances();
            c.due("count(5)", x.count(5), 0);
            for (int gangway : Edges.GANGWAYS) {
                c.due("gangway(" + gangway + ", 3)", x.gangway(gangway, 3), Edges.NOT_FOUND);
            }
        });
        checks.test("1: a new city has no chimney, and no roof in smoke", c -> {
            RoofOrdinances x = new RoofOrdinances();
            c.due("count(2)", x.count(2), 0);
            for (int roof = 0; roof < 16; roof++) {
                c.due("roof(" + roof + ", 0)", x.roof(roof, 0), 0);
                c.due("roof(" + roof + ", 1)", x.roof(roof, 1), 0);
            }
        });
        checks.test("1: a new city has no coop", c -> {
            RoofOrdinances x = new RoofOrdinances();
            c.due("count(4)", x.count(4), 0);
            for (int roof = 0; roof < 16; roof++) {
                c.due("roof(" + roof + ", 3)", x.roof(roof, 3), 0);
            }
        });
        checks.test("1: the first day is 0", c -> c.due("count(0)", new RoofOrdinances().count(0), 0));
        checks.test("1: the wind blows to the east at first",
                c -> c.due("count(1)", new RoofOrdinances().count(1), 0));
        checks.test("1: each gangway bears 5 at first", c -> {
            RoofOrdinances x = new RoofOrdinances();
            for (int gangway : Edges.GANGWAYS) {
                c.due("gangway(" + gangway + ", 0)", x.gangway(gangway, 0), 5);
            }
        });
        checks.test("1: REACH is 2 at first", c -> c.due("count(14)", new RoofOrdinances().count(14), 2));
        checks.test("1: the lot is 1 at first", c -> c.due("count(15)", new RoofOrdinances().count(15), 1));
        checks.test("1: the pad is empty at first", c -> c.due("count(16)", new RoofOrdinances().count(16), 0));
        checks.test("1: there is no state in the history at first",
                c -> c.due("count(17)", new RoofOrdinances().count(17), 0));
        checks.test("1: two cities have nothing in common", c -> {
            RoofOrdinances x = new RoofOrdinances();
            RoofOrdinances y = Portraits.livelyWithAll();
            c.due("count(5)", x.count(5), 0);
            c.due("count(16)", x.count(16), 0);
            c.due("undo()", x.undo(), Edges.NOT_POSSIBLE);
            c.due("the lively one's pad", y.count(16), 9);
        });
    }

    private static void newOwners(Checks checks) {
        checks.test("1: each owner weighs 3 at first", c -> dueOfEachOwner(c, 0, 3, 3, 3, 3));
        checks.test("1: each owner has all keys at first",
                c -> dueOfEachOwner(c, 1, 65535, 65535, 65535, 65535));
        checks.test("1: no owner has a truce at first", c -> dueOfEachOwner(c, 2, 0, 0, 0, 0));
        checks.test("1: the owner o is on the roof 5 * o at first", c -> dueOfEachOwner(c, 3, 0, 5, 10, 15));
        checks.test("1: no owner has walked at first", c -> dueOfEachOwner(c, 7, 0, 0, 0, 0));
    }

    private static void dueOfEachOwner(Checks c, int what, int... want) {
        RoofOrdinances x = new RoofOrdinances();
        for (int owner = 0; owner < 4; owner++) {
            c.due("ownerOf(" + owner + ", " + what + ")", x.ownerOf(owner, what), want[owner]);
        }
    }

    private static void bearsRanges(Checks checks) {
        checks.test("2: each of the 24 gangways can be changed, alone", c -> {
            for (int gangway : Edges.GANGWAYS) {
                RoofOrdinances x = new RoofOrdinances();
                c.due("bears(" + gangway + ", 9)", x.bears(gangway, 9), 5);
                for (int other : Edges.GANGWAYS) {
                    c.due("what " + other + " bears", x.gangway(other, 0), other == gangway ? 9 : 5);
                }
            }
        });
        checks.test("2: 3, 7, 11 and 15 are no gangways",
                c -> dueInvalid(c, Edges.NUMBERS_BETWEEN_THAT_ARE_NONE));
        checks.test("2: 28 to 31 are no gangways", c -> dueInvalid(c, Edges.NUMBERS_ABOVE_THAT_ARE_NONE));
        checks.test("2: gangways below 0 and above 31", c -> dueInvalid(c, Edges.outside(0, 31)));
        checks.test("2: the least that a gangway bears is 0", c -> {
            RoofOrdinances x = new RoofOrdinances();
            c.due("bears(0, 0)", x.bears(0, 0), 5);
            c.due("gangway(0, 0)", x.gangway(0, 0), 0);
        });
        checks.test("2: the most that a gangway bears is 9", c -> {
            RoofOrdinances x = new RoofOrdinances();
            c.due("bears(27, 9)", x.bears(27, 9), 5);
            c.due("gangway(27, 0)", x.gangway(27, 0), 9);
        });
        checks.test("2: to bear less than 0 or more than 9 is INVALID_ARGUMENT", c -> {
            RoofOrdinances x = new RoofOrdinances();
            for (int much : Edges.outside(0, 9)) {
                c.due("bears(0, " + much + ")", x.bears(0, much), INVALID);
            }
            c.due("gangway(0, 0)", x.gangway(0, 0), 5);
        });
        checks.test("2: it answers what the gangway bore, also if it bears the same then", c -> {
            RoofOrdinances x = new RoofOrdinances();
            c.due("bears(16, 5)", x.bears(16, 5), 5);
            c.due("bears(16, 1)", x.bears(16, 1), 5);
            c.due("bears(16, 9)", x.bears(16, 9), 1);
            c.due("bears(16, 0)", x.bears(16, 0), 9);
            c.due("bears(16, 0)", x.bears(16, 0), 0);
        });
    }

    private static void dueInvalid(Checks c, int[] numbers) {
        RoofOrdinances x = new RoofOrdinances();
        for (int number : numbers) {
            c.due("bears(" + number + ", 5)", x.bears(number, 5), INVALID);
        }
        c.due("count(17)", x.count(17), 0);
    }

    private static void bearsNothing(Checks checks) {
        checks.test("2: a line stays, if its gangway comes to bear 1", c -> {
            RoofOrdinances x = new RoofOrdinances();
            x.hang(0, 14);
            x.bears(14, 1);
            c.due("gangway(14, 3)", x.gangway(14, 3), 0);
            c.due("count(12)", x.count(12), 0);
        });
        checks.test("2: a line falls, if its gangway comes to bear 0", c -> {
            RoofOrdinances x = new RoofOrdinances();
            x.hang(0, 14);
            c.due("bears(14, 0)", x.bears(14, 0), 5);
            c.due("gangway(14, 3)", x.gangway(14, 3), Edges.NOT_FOUND);
            c.due("lines", x.count(5), 0);
            c.due("fallen", x.count(12), 1);
            c.due("taken down", x.count(11), 0);
        });
        checks.test("2: only the line over that gangway falls", c -> {
            RoofOrdinances x = new RoofOrdinances();
            for (int gangway : Edges.GANGWAYS) {
                x.hang(1, gangway);
            }
            x.bears(21, 0);
            c.due("lines", x.count(5), 23);
            c.due("fallen", x.count(12), 1);
        });
        checks.test("2: no line falls, if none hangs there", c -> {
            RoofOrdinances x = new RoofOrdinances();
            x.hang(1, 1);
            x.bears(0, 0);
            c.due("fallen", x.count(12), 0);
            c.due("lines", x.count(5), 1);
        });
        checks.test("2: a fallen line doesn't fall again, and doesn't come back", c -> {
            RoofOrdinances x = new RoofOrdinances();
            x.hang(1, 1);
            x.bears(1, 0);
            x.bears(1, 0);
            x.bears(1, 5);
            c.due("fallen", x.count(12), 1);
            c.due("lines", x.count(5), 0);
        });
        checks.test("2: the soot and the spots of a line that falls are gone", c -> {
            RoofOrdinances x = new RoofOrdinances();
            x.hang(1, 1);
            x.chimney(1);
            x.coop(2);
            x.day();
            x.bears(1, 0);
            c.due("soot", x.count(7), 0);
            c.due("spots", x.count(8), 0);
            x.bears(1, 5);
            x.chimney(1);
            x.coop(2);
            x.hang(1, 1);
            c.due("soot of a new one", x.gangway(1, 4), 0);
            c.due("spots of a new one", x.gangway(1, 5), 0);
        });
    }

    private static void wind(Checks checks) {
        checks.test("3: the wind blows to 0 at the least, and to 3 at the most", c -> {
            RoofOrdinances x = new RoofOrdinances();
            c.due("wind(3)", x.wind(3), 0);
            c.due("wind(0)", x.wind(0), 3);
            c.due("count(1)", x.count(1), 0);
        });
        checks.test("3: a wind to less than 0 or more than 3 is INVALID_ARGUMENT", c -> {
            RoofOrdinances x = new RoofOrdinances();
            x.wind(2);
            for (int to : Edges.outside(0, 3)) {
                c.due("wind(" + to + ")", x.wind(to), INVALID);
            }
            c.due("count(1)", x.count(1), 2);
        });
        checks.test("3: the wind can be turned to where it blows", c -> {
            RoofOrdinances x = new RoofOrdinances();
            c.due("wind(0)", x.wind(0), 0);
            c.due("count(1)", x.count(1), 0);
        });
        checks.test("3: the wind doesn't move the lot, nor the day", c -> {
            RoofOrdinances x = new RoofOrdinances();
            x.wind(1);
            c.due("count(15)", x.count(15), 1);
            c.due("count(0)", x.count(0), 0);
        });
    }

    private static void chimney(Checks checks) {
        checks.test("4: a chimney on the least roof, and on the greatest", c -> {
            RoofOrdinances x = new RoofOrdinances();
            c.due("chimney(0)", x.chimney(0), 3);
            c.due("chimney(15)", x.chimney(15), 4);
            c.due("roof(0, 0)", x.roof(0, 0), 1);
            c.due("roof(15, 0)", x.roof(15, 0), 1);
        });
        checks.test("4: a chimney on no roof is INVALID_ARGUMENT", c -> {
            RoofOrdinances x = new RoofOrdinances();
            for (int roof : Edges.noRoofs()) {
                c.due("chimney(" + roof + ")", x.chimney(roof), INVALID);
            }
            c.due("count(2)", x.count(2), 0);
        });
        checks.test("4: a chimney that smokes ceases", c -> {
            RoofOrdinances x = new RoofOrdinances();
            x.chimney(6);
            c.due("chimney(6)", x.chimney(6), 0);
            c.due("roof(6, 0)", x.roof(6, 0), 0);
            c.due("roof(6, 1)", x.roof(6, 1), 0);
            c.due("chimney(6)", x.chimney(6), 2);
        });
        checks.test("4: a roof in the smoke of two chimneys is counted once", c -> {
            RoofOrdinances x = new RoofOrdinances();
            c.due("chimney(4)", x.chimney(4), 3);
            c.due("chimney(5)", x.chimney(5), 4);
            c.due("chimney(6)", x.chimney(6), 4);
        });
        checks.test("4: the other chimney's smoke stays, if one ceases", c -> {
            RoofOrdinances x = new RoofOrdinances();
            x.chimney(4);
            x.chimney(5);
            c.due("chimney(4)", x.chimney(4), 3);
            c.due("roof(4, 1)", x.roof(4, 1), 0);
            c.due("roof(5, 1)", x.roof(5, 1), 1);
        });
        checks.test("4: all roofs can have chimneys", c -> {
            RoofOrdinances x = new RoofOrdinances();
            x.reach(0);
            for (int roof = 0; roof < 16; roof++) {
                c.due("chimney(" + roof + ")", x.chimney(roof), roof + 1);
            }
            c.due("count(2)", x.count(2), 16);
            c.due("chimney(0)", x.chimney(0), 15);
        });
    }

    private static void smokeAtTheEdge(Checks checks) {
        checks.test("4: smoke to the east ends with the row", c -> {
            for (int roof : new int[] {3, 7, 11, 15}) {
                dueSmoke(c, 0, 3, roof, 1 << roof);
            }
            dueSmoke(c, 0, 2, 2, 1 << 2 | 1 << 3);
        });
        checks.test("4: smoke to the south ends with the last row", c -> {
            for (int roof = 12; roof < 16; roof++) {
                dueSmoke(c, 1, 3, roof, 1 << roof);
            }
            dueSmoke(c, 1, 2, 8, 1 << 8 | 1 << 12);
        });
        checks.test("4: smoke to the west ends with the row", c -> {
            for (int roof : new int[] {0, 4, 8, 12}) {
                dueSmoke(c, 2, 3, roof, 1 << roof);
            }
            dueSmoke(c, 2, 2, 5, 1 << 5 | 1 << 4);
        });
        checks.test("4: smoke to the north ends with the first row", c -> {
            for (int roof = 0; roof < 4; roof++) {
                dueSmoke(c, 3, 3, roof, 1 << roof);
            }
            dueSmoke(c, 3, 2, 7, 1 << 7 | 1 << 3);
        });
    }

    private static void smokeByReach(Checks checks) {
        checks.test("4: with REACH 0 the roof itself is in smoke, alone", c -> {
            for (int to = 0; to < 4; to++) {
                for (int roof = 0; roof < 16; roof++) {
                    dueSmoke(c, to, 0, roof, 1 << roof);
                }
            }
        });
        checks.test("4: the roof at REACH is in smoke, the next one is not", c -> {
            dueSmoke(c, 0, 1, 8, 1 << 8 | 1 << 9);
            dueSmoke(c, 0, 2, 8, 1 << 8 | 1 << 9 | 1 << 10);
            dueSmoke(c, 1, 1, 2, 1 << 2 | 1 << 6);
            dueSmoke(c, 1, 2, 2, 1 << 2 | 1 << 6 | 1 << 10);
            dueSmoke(c, 2, 1, 11, 1 << 11 | 1 << 10);
            dueSmoke(c, 2, 2, 11, 1 << 11 | 1 << 10 | 1 << 9);
            dueSmoke(c, 3, 1, 13, 1 << 13 | 1 << 9);
            dueSmoke(c, 3, 2, 13, 1 << 13 | 1 << 9 | 1 << 5);
        });
        checks.test("4: with REACH 3 smoke goes from one edge to the other", c -> {
            dueSmoke(c, 0, 3, 12, 15 << 12);
            dueSmoke(c, 2, 3, 15, 15 << 12);
            dueSmoke(c, 1, 3, 3, 1 << 3 | 1 << 7 | 1 << 11 | 1 << 15);
            dueSmoke(c, 3, 3, 15, 1 << 3 | 1 << 7 | 1 << 11 | 1 << 15);
        });
        checks.test("4: the smoke follows the wind that is turned", c -> {
            RoofOrdinances x = new RoofOrdinances();
            x.chimney(5);
            x.wind(3);
            c.due("count(3)", x.count(3), 2);
            c.due("roof(6, 1)", x.roof(6, 1), 0);
            c.due("roof(1, 1)", x.roof(1, 1), 1);
        });
    }

    private static void dueSmoke(Checks c, int to, int reach, int chimney, int want) {
        RoofOrdinances x = new RoofOrdinances();
        x.wind(to);
        x.reach(reach);
        String told = "wind " + to + ", REACH " + reach + ": chimney(" + chimney + ")";
        c.due(told, x.chimney(chimney), Integer.bitCount(want));
        for (int roof = 0; roof < 16; roof++) {
            c.due(told + ", roof(" + roof + ", 1)", x.roof(roof, 1), want >> roof & 1);
        }
    }

    private static void coop(Checks checks) {
        checks.test("5: a coop on the least roof, and on the greatest", c -> {
            RoofOrdinances x = new RoofOrdinances();
            c.due("coop(0)", x.coop(0), 1);
            c.due("coop(15)", x.coop(15), 2);
            c.due("roof(0, 3)", x.roof(0, 3), 1);
            c.due("roof(15, 3)", x.roof(15, 3), 1);
        });
        checks.test("5: a coop on no roof is INVALID_ARGUMENT", c -> {
            RoofOrdinances x = new RoofOrdinances();
            for (int roof : Edges.noRoofs()) {
                c.due("coop(" + roof + ")", x.coop(roof), INVALID);
            }
            c.due("count(4)", x.count(4), 0);
        });
        checks.test("5: a coop that is there goes", c -> {
            RoofOrdinances x = new RoofOrdinances();
            x.coop(9);
            x.coop(10);
            c.due("coop(9)", x.coop(9), 1);
            c.due("roof(9, 3)", x.roof(9, 3), 0);
            c.due("coop(10)", x.coop(10), 0);
            c.due("coop(9)", x.coop(9), 1);
        });
        checks.test("5: all roofs can have coops", c -> {
            RoofOrdinances x = new RoofOrdinances();
            for (int roof = 0; roof < 16; roof++) {
                c.due("coop(" + roof + ")", x.coop(roof), roof + 1);
            }
            c.due("coop(15)", x.coop(15), 15);
        });
        checks.test("5: a coop that comes leaves the lines that hang there", c -> {
            RoofOrdinances x = new RoofOrdinances();
            x.hang(0, 5);
            x.coop(5);
            c.due("lines", x.count(5), 1);
            c.due("clean ones", x.count(6), 1);
        });
    }

    private static void ownerRanges(Checks checks) {
        checks.test("6: the least owner, and the greatest", c -> {
            RoofOrdinances x = new RoofOrdinances();
            c.due("owner(0, 4, 1, true)", x.owner(0, 4, 1, true), 3);
            c.due("owner(3, 5, 2, true)", x.owner(3, 5, 2, true), 3);
            c.due("ownerOf(0, 0)", x.ownerOf(0, 0), 4);
            c.due("ownerOf(3, 0)", x.ownerOf(3, 0), 5);
        });
        checks.test("6: no such owner is INVALID_ARGUMENT", c -> {
            RoofOrdinances x = new RoofOrdinances();
            for (int owner : Edges.noOwners()) {
                c.due("owner(" + owner + ", 3, 0, true)", x.owner(owner, 3, 0, true), INVALID);
            }
        });
        checks.test("6: the least weight is 1, the greatest 9", c -> {
            RoofOrdinances x = new RoofOrdinances();
            c.due("owner(2, 1, 0, false)", x.owner(2, 1, 0, false), 3);
            c.due("owner(2, 9, 0, false)", x.owner(2, 9, 0, false), 1);
            c.due("owner(2, 9, 0, false)", x.owner(2, 9, 0, false), 9);
        });
        checks.test("6: a weight below 1 or above 9 is INVALID_ARGUMENT", c -> {
            RoofOrdinances x = new RoofOrdinances();
            for (int weight : Edges.outside(1, 9)) {
                c.due("owner(0, " + weight + ", 0, true)", x.owner(0, weight, 0, true), INVALID);
            }
            c.due("ownerOf(0, 0)", x.ownerOf(0, 0), 3);
            c.due("ownerOf(0, 1)", x.ownerOf(0, 1), 65535);
            c.due("ownerOf(0, 2)", x.ownerOf(0, 2), 0);
        });
        checks.test("6: keys to no roof, and to all", c -> {
            RoofOrdinances x = new RoofOrdinances();
            x.owner(1, 3, 0, false);
            c.due("ownerOf(1, 1)", x.ownerOf(1, 1), 0);
            x.owner(1, 3, 65535, false);
            c.due("ownerOf(1, 1)", x.ownerOf(1, 1), 65535);
        });
        checks.test("6: keys below 0 or above 65535 are INVALID_ARGUMENT", c -> {
            RoofOrdinances x = new RoofOrdinances();
            for (int keys : Edges.outside(0, 65535)) {
                c.due("owner(0, 4, " + keys + ", true)", x.owner(0, 4, keys, true), INVALID);
            }
            c.due("ownerOf(0, 0)", x.ownerOf(0, 0), 3);
            c.due("ownerOf(0, 1)", x.ownerOf(0, 1), 65535);
            c.due("ownerOf(0, 2)", x.ownerOf(0, 2), 0);
        });
    }

    private static void ownerChanges(Checks checks) {
        checks.test("6: the number k of the keys is the roof k", c -> {
            for (int gangway : Edges.GANGWAYS) {
                RoofOrdinances x = new RoofOrdinances();
                x.owner(0, 3, 1 << Edges.lesser(gangway) | 1 << Edges.greater(gangway), false);
                for (int other : Edges.GANGWAYS) {
                    c.due("whyNotHang(0, " + other + ")", x.whyNotHang(0, other), other == gangway ? 0 : 3);
                }
            }
        });
        checks.test("6: a truce can be made, kept and broken", c -> {
            RoofOrdinances x = new RoofOrdinances();
            x.owner(3, 3, 65535, true);
            c.due("ownerOf(3, 2)", x.ownerOf(3, 2), 1);
            x.owner(3, 3, 65535, true);
            c.due("ownerOf(3, 2)", x.ownerOf(3, 2), 1);
            x.owner(3, 3, 65535, false);
            c.due("ownerOf(3, 2)", x.ownerOf(3, 2), 0);
            x.owner(3, 3, 65535, false);
            c.due("ownerOf(3, 2)", x.ownerOf(3, 2), 0);
        });
        checks.test("6: the other owners stay as they are", c -> {
            RoofOrdinances x = new RoofOrdinances();
            x.owner(1, 9, 0, true);
            for (int other : new int[] {0, 2, 3}) {
                c.due("ownerOf(" + other + ", 0)", x.ownerOf(other, 0), 3);
                c.due("ownerOf(" + other + ", 1)", x.ownerOf(other, 1), 65535);
                c.due("ownerOf(" + other + ", 2)", x.ownerOf(other, 2), 0);
            }
        });
        checks.test("6: an owner without keys stays on the roof, and keeps lines and walks", c -> {
            RoofOrdinances x = new RoofOrdinances();
            x.hang(1, 5);
            x.walk(1, 5);
            x.owner(1, 9, 0, true);
            c.due("ownerOf(1, 3)", x.ownerOf(1, 3), 6);
            c.due("ownerOf(1, 4)", x.ownerOf(1, 4), 1);
            c.due("ownerOf(1, 7)", x.ownerOf(1, 7), 1);
        });
    }

    private static void reach(Checks checks) {
        checks.test("7: the least REACH is 0, the greatest 3", c -> {
            RoofOrdinances x = new RoofOrdinances();
            c.due("reach(0)", x.reach(0), 2);
            c.due("reach(3)", x.reach(3), 0);
            c.due("reach(3)", x.reach(3), 3);
            c.due("count(14)", x.count(14), 3);
        });
        checks.test("7: a REACH below 0 or above 3 is INVALID_ARGUMENT", c -> {
            RoofOrdinances x = new RoofOrdinances();
            for (int roofs : Edges.outside(0, 3)) {
                c.due("reach(" + roofs + ")", x.reach(roofs), INVALID);
            }
            c.due("count(14)", x.count(14), 2);
        });
        checks.test("7: REACH changes the smoke of the chimneys that are there", c -> {
            RoofOrdinances x = new RoofOrdinances();
            x.chimney(0);
            int[] want = {1, 2, 3, 4};
            for (int roofs = 0; roofs < 4; roofs++) {
                x.reach(roofs);
                c.due("count(3) with REACH " + roofs, x.count(3), want[roofs]);
            }
        });
    }
}
