/** The sentences of promises 25 to 28 that name a boundary case: a test for each. */
final class WouldBeEdgeTests {
    private static final int INVALID = Edges.INVALID;
    private static final int NOT_FOUND = Edges.NOT_FOUND;

    private WouldBeEdgeTests() {
    }

    static void all(Checks checks) {
        ifWind(checks);
        bestWind(checks);
        ifDaysRanges(checks);
        ifDaysBrings(checks);
        bestPlaceNone(checks);
        bestPlaceByWinds(checks);
        bestPlaceByReach(checks);
        bestPlaceOfSeveral(checks);
    }

    private static void ifWind(Checks checks) {
        checks.test("25: a wind to less than 0 or more than 3 is INVALID_ARGUMENT", c -> {
            RoofOrdinances x = new RoofOrdinances();
            for (int to : Edges.outside(0, 3)) {
                c.due("ifWind(" + to + ")", x.ifWind(to), INVALID);
            }
        });
        checks.test("25: 0 without lines, and without chimneys", c -> {
            RoofOrdinances x = new RoofOrdinances();
            RoofOrdinances y = new RoofOrdinances();
            x.chimney(5);
            y.hang(0, 0);
            for (int to = 0; to < 4; to++) {
                c.due("without lines, ifWind(" + to + ")", x.ifWind(to), 0);
                c.due("without chimneys, ifWind(" + to + ")", y.ifWind(to), 0);
            }
        });
        checks.test("25: of the wind that blows it tells what count(9) tells", c -> {
            for (int to = 0; to < 4; to++) {
                RoofOrdinances x = Portraits.livelyWithAll();
                x.wind(to);
                c.due("ifWind(" + to + ")", x.ifWind(to), x.count(9));
            }
        });
        checks.test("25: a line with both roofs in smoke is one line, as is one with one", c -> {
            RoofOrdinances x = new RoofOrdinances();
            x.hang(0, 5);
            x.chimney(5);
            c.due("both", x.ifWind(0), 1);
            c.due("one", x.ifWind(1), 1);
        });
        checks.test("25: all lines can be in smoke", c -> {
            RoofOrdinances x = new RoofOrdinances();
            x.reach(0);
            for (int gangway : Edges.GANGWAYS) {
                x.hang(0, gangway);
            }
            for (int roof = 0; roof < 16; roof++) {
                x.chimney(roof);
            }
            c.due("ifWind(3)", x.ifWind(3), 24);
        });
        checks.test("25: REACH counts, as it is", c -> {
            RoofOrdinances x = new RoofOrdinances();
            x.hang(0, 14);
            x.chimney(12);
            x.wind(1);
            int[] want = {0, 0, 1, 1};
            for (int reach = 0; reach < 4; reach++) {
                x.reach(reach);
                c.due("ifWind(0) with REACH " + reach, x.ifWind(0), want[reach]);
            }
        });
    }

    private static void bestWind(Checks checks) {
        checks.test("26: 0 without lines, whatever wind blows", c -> {
            for (int to = 0; to < 4; to++) {
                RoofOrdinances x = new RoofOrdinances();
                x.chimney(5);
                x.wind(to);
                c.due("bestWind()", x.bestWind(), 0);
            }
        });
        checks.test("26: 0, if all winds are as bad", c -> {
            RoofOrdinances x = new RoofOrdinances();
            x.hang(0, 5);
            x.chimney(5);
            x.wind(2);
            c.due("bestWind()", x.bestWind(), 0);
        });
        checks.test("26: each wind, if it alone keeps a line out of smoke", c -> {
            // The line of a wind hangs where the smoke of the chimney 5 goes by that wind alone.
            int[] lineOfWind = {6, 25, 20, 0};
            for (int best = 0; best < 4; best++) {
                RoofOrdinances x = new RoofOrdinances();
                for (int to = 0; to < 4; to++) {
                    if (to != best) {
                        x.hang(0, lineOfWind[to]);
                    }
                }
                x.chimney(5);
                c.due("bestWind()", x.bestWind(), best);
            }
        });
        checks.test("26: of several winds the least number", c -> {
            int[] lineOfWind = {6, 25, 20, 0};
            for (int second = 1; second < 4; second++) {
                for (int first = 0; first < second; first++) {
                    RoofOrdinances x = new RoofOrdinances();
                    for (int to = 0; to < 4; to++) {
                        if (to != first && to != second) {
                            x.hang(0, lineOfWind[to]);
                        }
                    }
                    x.chimney(5);
                    x.wind(second);
                    c.due(first + " is as good as " + second, x.bestWind(), first);
                }
            }
        });
        checks.test("26: lines are counted, not roofs", c -> {
            RoofOrdinances x = new RoofOrdinances();
            x.hang(0, 9);
            x.hang(0, 24);
            x.hang(0, 22);
            x.chimney(9);
            c.due("two lines by the east", x.ifWind(0), 2);
            c.due("two lines by the west", x.ifWind(2), 2);
            c.due("one by the south", x.ifWind(1), 1);
            c.due("bestWind()", x.bestWind(), 1);
        });
    }

    private static void ifDaysRanges(Checks checks) {
        checks.test("27: the least is 1 day, the most 30", c -> {
            RoofOrdinances x = new RoofOrdinances();
            x.reach(0);
            x.hang(0, 0);
            x.chimney(0);
            c.due("ifDays(1, 1)", x.ifDays(1, 1), 1);
            c.due("ifDays(30, 1)", x.ifDays(30, 1), 30);
        });
        checks.test("27: less than 1 day or more than 30 are INVALID_ARGUMENT", c -> {
            RoofOrdinances x = new RoofOrdinances();
            for (int days : Edges.outside(1, 30)) {
                for (int what = 0; what < 4; what++) {
                    c.due("ifDays(" + days + ", " + what + ")", x.ifDays(days, what), INVALID);
                }
            }
        });
        checks.test("27: no such number is INVALID_ARGUMENT", c -> {
            RoofOrdinances x = new RoofOrdinances();
            for (int what : Edges.outside(0, 3)) {
                c.due("ifDays(1, " + what + ")", x.ifDays(1, what), INVALID);
                c.due("ifDays(30, " + what + ")", x.ifDays(30, what), INVALID);
            }
        });
        checks.test("27: without lines none is clean, and there is no soot and no spot", c -> {
            RoofOrdinances x = new RoofOrdinances();
            x.chimney(5);
            x.coop(5);
            for (int what = 0; what < 3; what++) {
                c.due("ifDays(30, " + what + ")", x.ifDays(30, what), 0);
            }
        });
    }

    private static void ifDaysBrings(Checks checks) {
        checks.test("27: it tells what so many days bring, for each number of days", c -> {
            for (int days = 1; days <= 30; days++) {
                RoofOrdinances x = cityForDays();
                int[] told = new int[4];
                for (int what = 0; what < 4; what++) {
                    told[what] = x.ifDays(days, what);
                }
                for (int day = 0; day < days; day++) {
                    x.day();
                }
                c.due("clean lines after " + days, told[0], x.count(6));
                c.due("soot after " + days, told[1], x.count(7));
                c.due("spots after " + days, told[2], x.count(8));
                c.due("wind after " + days, told[3], x.count(1));
            }
        });
        checks.test("27: the wind of the days to come, reckoned by hand", c -> {
            RoofOrdinances x = new RoofOrdinances();
            int[] days = {1, 4, 5, 8, 9, 12, 13, 16, 17, 30};
            int[] want = {1, 1, 2, 2, 3, 3, 0, 0, 1, 0};
            for (int index = 0; index < days.length; index++) {
                c.due("ifDays(" + days[index] + ", 3)", x.ifDays(days[index], 3), want[index]);
            }
        });
        checks.test("27: each answer tells days from now on, not from the answer before", c -> {
            RoofOrdinances x = cityForDays();
            int first = x.ifDays(30, 1);
            x.ifDays(7, 2);
            c.due("ifDays(30, 1)", x.ifDays(30, 1), first);
            c.due("count(0)", x.count(0), 0);
            c.due("count(15)", x.count(15), 1);
        });
    }

    private static RoofOrdinances cityForDays() {
        RoofOrdinances x = new RoofOrdinances();
        x.hang(0, 0);
        x.hang(1, 5);
        x.hang(2, 20);
        x.hang(3, 27);
        x.hang(0, 14);
        x.chimney(4);
        x.chimney(10);
        x.coop(6);
        x.coop(15);
        x.owner(3, 3, 65535, true);
        return x;
    }

    private static void bestPlaceNone(Checks checks) {
        checks.test("28: no such owner is INVALID_ARGUMENT, also without a place", c -> {
            RoofOrdinances x = new RoofOrdinances();
            RoofOrdinances y = Edges.withoutGangways();
            for (int owner : Edges.noOwners()) {
                c.due("bestPlace(" + owner + ")", x.bestPlace(owner), INVALID);
                c.due("bestPlace(" + owner + ")", y.bestPlace(owner), INVALID);
            }
        });
        checks.test("28: NOT_FOUND, if no gangway bears more than 0", c -> {
            RoofOrdinances x = Edges.withoutGangways();
            c.due("bestPlace(0)", x.bestPlace(0), NOT_FOUND);
        });
        checks.test("28: NOT_FOUND, if lines hang over all", c -> {
            RoofOrdinances x = new RoofOrdinances();
            for (int gangway : Edges.GANGWAYS) {
                x.hang(0, gangway);
            }
            c.due("bestPlace(1)", x.bestPlace(1), NOT_FOUND);
            x.take(0, 27);
            c.due("bestPlace(1)", x.bestPlace(1), 27);
        });
        checks.test("28: NOT_FOUND without keys, or with keys to no two neighbours", c -> {
            RoofOrdinances x = new RoofOrdinances();
            x.owner(2, 3, 0, false);
            c.due("bestPlace(2)", x.bestPlace(2), NOT_FOUND);
            x.owner(2, 3, 1 << 3 | 1 << 4, false);
            c.due("bestPlace(2)", x.bestPlace(2), NOT_FOUND);
            c.due("bestPlace(1)", x.bestPlace(1), 0);
        });
        checks.test("28: NOT_FOUND, if all roofs are in smoke", c -> {
            RoofOrdinances x = new RoofOrdinances();
            x.reach(3);
            for (int roof = 0; roof < 16; roof += 4) {
                x.chimney(roof);
            }
            c.due("bestPlace(0)", x.bestPlace(0), NOT_FOUND);
            x.reach(2);
            c.due("with REACH 2", x.bestPlace(0), 19);
        });
        checks.test("28: NOT_FOUND, if coops are near everywhere, but not with a truce", c -> {
            RoofOrdinances x = new RoofOrdinances();
            x.coop(5);
            x.coop(10);
            x.coop(3);
            x.coop(12);
            c.due("bestPlace(0)", x.bestPlace(0), NOT_FOUND);
            x.owner(0, 3, 65535, true);
            c.due("bestPlace(0)", x.bestPlace(0), 0);
        });
    }

    private static void bestPlaceByWinds(Checks checks) {
        checks.test("28: each wind with both roofs in smoke counts 1, as with one of them", c -> {
            RoofOrdinances x = new RoofOrdinances();
            x.wind(3);
            x.chimney(5);
            x.owner(0, 3, 1 << 6 | 1 << 7 | 1 << 8 | 1 << 9, false);
            // By the east wind 6 and 7 are in smoke, by the south wind 9 alone.
            c.due("bestPlace(0)", x.bestPlace(0), 6);
        });
        checks.test("28: a place in smoke by no wind, though its number is greater", c -> {
            RoofOrdinances x = new RoofOrdinances();
            x.wind(1);
            x.chimney(0);
            x.owner(0, 3, 1 << 1 | 1 << 2 | 1 << 14 | 1 << 15, false);
            c.due("bestPlace(0)", x.bestPlace(0), 14);
        });
        checks.test("28: a place in smoke now is none, though it is by one wind alone", c -> {
            RoofOrdinances x = new RoofOrdinances();
            x.chimney(0);
            x.owner(0, 3, 1 << 1 | 1 << 2, false);
            c.due("east", x.bestPlace(0), NOT_FOUND);
            x.wind(1);
            c.due("south", x.bestPlace(0), 1);
        });
        checks.test("28: a place in smoke by the three other winds is one, if there is no better", c -> {
            RoofOrdinances x = new RoofOrdinances();
            x.reach(1);
            x.chimney(4);
            x.chimney(7);
            x.chimney(1);
            x.chimney(9);
            x.owner(1, 3, 1 << 5 | 1 << 6, false);
            c.due("in smoke now", x.bestPlace(1), NOT_FOUND);
            x.chimney(4);
            c.due("in smoke by three", x.bestPlace(1), 5);
        });
    }

    private static void bestPlaceByReach(Checks checks) {
        checks.test("28: REACH counts, as it is", c -> {
            RoofOrdinances x = new RoofOrdinances();
            x.wind(1);
            x.chimney(0);
            x.owner(0, 3, 1 << 2 | 1 << 3 | 1 << 14 | 1 << 15, false);
            c.due("with REACH 2", x.bestPlace(0), 14);
            x.reach(1);
            c.due("with REACH 1", x.bestPlace(0), 2);
        });
    }

    private static void bestPlaceOfSeveral(Checks checks) {
        checks.test("28: each of the four winds counts 1, so the lower one of two such places is the best", c -> {
            // Each place is in the smoke of the chimney by one wind alone: east, south, west, north.
            dueLowerOfEachTwo(c, 5, new int[] {6, 25, 20, 0});
            dueLowerOfEachTwo(c, 10, new int[] {27, 13, 24, 1});
        });
        checks.test("28: of several the lowest", c -> {
            RoofOrdinances x = new RoofOrdinances();
            for (int gangway : Edges.GANGWAYS) {
                c.due("bestPlace(3)", x.bestPlace(3), gangway);
                x.hang(3, gangway);
            }
            c.due("bestPlace(3)", x.bestPlace(3), NOT_FOUND);
        });
        checks.test("28: each gangway, if it is the only one", c -> {
            for (int gangway : Edges.GANGWAYS) {
                RoofOrdinances x = Edges.withoutGangways();
                x.bears(gangway, 1);
                c.due("bestPlace(0)", x.bestPlace(0), gangway);
            }
        });
        checks.test("28: nothing is hung, nor refused", c -> {
            RoofOrdinances x = new RoofOrdinances();
            x.bears(0, 0);
            c.due("bestPlace(0)", x.bestPlace(0), 1);
            c.due("count(5)", x.count(5), 0);
            c.due("count(10)", x.count(10), 0);
            c.due("count(13)", x.count(13), 0);
        });
    }

    private static void dueLowerOfEachTwo(Checks c, int chimney, int[] placeOfWind) {
        for (int first = 0; first < 4; first++) {
            for (int second = first + 1; second < 4; second++) {
                RoofOrdinances x = Edges.withoutGangways();
                x.bears(placeOfWind[first], 1);
                x.bears(placeOfWind[second], 1);
                x.chimney(chimney);
                int other = first > 0 ? 0 : second == 1 ? 2 : 1;
                x.wind(other);
                c.due("chimney on " + chimney + ", places of the winds " + first + " and " + second, x.bestPlace(0),
                        Math.min(placeOfWind[first], placeOfWind[second]));
            }
        }
    }
}
