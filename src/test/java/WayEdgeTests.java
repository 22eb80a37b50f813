/** The sentences of promises 21 and 22, and of "Ways", that name a boundary case: a test for each. */
final class WayEdgeTests {
    private static final int INVALID = Edges.INVALID;
    private static final int NOT_FOUND = Edges.NOT_FOUND;
    // From the roof 0 through all the roofs to the roof 12, and the gangways of that way.
    private static final int[] SNAKE = {0, 1, 2, 3, 7, 6, 5, 4, 8, 9, 10, 11, 15, 14, 13, 12};
    private static final int[] SNAKE_GANGWAYS = {0, 1, 2, 19, 6, 5, 4, 20, 8, 9, 10, 27, 14, 13, 12};

    private WayEdgeTests() {
    }

    static void all(Checks checks) {
        strongestRanges(checks);
        strongestEnds(checks);
        strongestWays(checks);
        stepsRanges(checks);
        stepsEnds(checks);
        stepsReasons(checks);
        stepsChangeNothing(checks);
    }

    private static void dueStrongest(Checks c, RoofOrdinances x, int from, int to, int want) {
        for (int way = 0; way < 2; way++) {
            c.due("strongest(" + from + ", " + to + ", " + way + ")", x.strongest(from, to, way), want);
        }
    }

    private static void strongestRanges(Checks checks) {
        checks.test("21: no such roof is INVALID_ARGUMENT, to begin with, to come to, or both", c -> {
            RoofOrdinances x = new RoofOrdinances();
            for (int roof : Edges.noRoofs()) {
                dueStrongest(c, x, roof, 0, INVALID);
                dueStrongest(c, x, 15, roof, INVALID);
                dueStrongest(c, x, roof, roof, INVALID);
            }
        });
        checks.test("21: no such way is INVALID_ARGUMENT", c -> {
            RoofOrdinances x = new RoofOrdinances();
            for (int way : Edges.outside(0, 1)) {
                c.due("strongest(0, 1, " + way + ")", x.strongest(0, 1, way), INVALID);
            }
        });
        checks.test("21: INVALID_ARGUMENT ahead of NOT_FOUND, and of 10", c -> {
            RoofOrdinances x = Edges.withoutGangways();
            c.due("strongest(0, 15, 2)", x.strongest(0, 15, 2), INVALID);
            c.due("strongest(0, 16, 0)", x.strongest(0, 16, 0), INVALID);
            c.due("strongest(4, 4, -1)", x.strongest(4, 4, -1), INVALID);
        });
    }

    private static void strongestEnds(Checks checks) {
        checks.test("21: 10 from a roof to itself, also from one without gangways", c -> {
            RoofOrdinances x = new RoofOrdinances();
            RoofOrdinances y = Edges.withoutGangways();
            for (int roof = 0; roof < 16; roof++) {
                dueStrongest(c, x, roof, roof, 10);
                dueStrongest(c, y, roof, roof, 10);
            }
        });
        checks.test("21: NOT_FOUND, if there is no way", c -> {
            RoofOrdinances x = Edges.withoutGangways();
            dueStrongest(c, x, 0, 1, NOT_FOUND);
            dueStrongest(c, x, 15, 0, NOT_FOUND);
            RoofOrdinances y = new RoofOrdinances();
            y.bears(14, 0);
            y.bears(27, 0);
            dueStrongest(c, y, 0, 15, NOT_FOUND);
            dueStrongest(c, y, 15, 0, NOT_FOUND);
            dueStrongest(c, y, 0, 14, 5);
        });
        checks.test("21: over one gangway its strength, from 1 to 9, and none with 0", c -> {
            for (int much = 0; much <= 9; much++) {
                RoofOrdinances x = Edges.withoutGangways();
                x.bears(22, much);
                dueStrongest(c, x, 6, 10, much == 0 ? NOT_FOUND : much);
                dueStrongest(c, x, 10, 6, much == 0 ? NOT_FOUND : much);
            }
        });
        checks.test("21: over each gangway from one of its roofs to the other", c -> {
            for (int gangway : Edges.GANGWAYS) {
                RoofOrdinances x = Edges.withoutGangways();
                x.bears(gangway, 9);
                dueStrongest(c, x, Edges.lesser(gangway), Edges.greater(gangway), 9);
                dueStrongest(c, x, Edges.greater(gangway), Edges.lesser(gangway), 9);
            }
        });
        checks.test("21: there is no way from the end of a row to the beginning of the next", c -> {
            RoofOrdinances x = new RoofOrdinances();
            for (int gangway = 16; gangway < 28; gangway++) {
                x.bears(gangway, 0);
            }
            dueStrongest(c, x, 3, 4, NOT_FOUND);
            dueStrongest(c, x, 7, 8, NOT_FOUND);
            dueStrongest(c, x, 12, 11, NOT_FOUND);
            dueStrongest(c, x, 12, 15, 5);
        });
    }

    private static void strongestWays(Checks checks) {
        checks.test("21: the least that a gangway of the way bears, wherever it is", c -> {
            for (int weak : SNAKE_GANGWAYS) {
                RoofOrdinances x = snake(8);
                x.bears(weak, 2);
                dueStrongest(c, x, 0, 12, 2);
                dueStrongest(c, x, 12, 0, 2);
            }
        });
        checks.test("21: the longest way of all is found", c -> {
            RoofOrdinances x = snake(1);
            for (int index = 1; index < SNAKE.length; index++) {
                dueStrongest(c, x, 0, SNAKE[index], 1);
                dueStrongest(c, x, 12, SNAKE[index - 1], 1);
            }
        });
        checks.test("21: a long strong way rather than a short weak one", c -> {
            RoofOrdinances x = new RoofOrdinances();
            for (int gangway : SNAKE_GANGWAYS) {
                x.bears(gangway, 6);
            }
            dueStrongest(c, x, 0, 4, 6);
            dueStrongest(c, x, 0, 12, 6);
            dueStrongest(c, x, 4, 12, 6);
        });
        checks.test("21: whatever lines, keys and weights", c -> {
            RoofOrdinances x = new RoofOrdinances();
            for (int gangway : Edges.GANGWAYS) {
                x.hang(1, gangway);
            }
            for (int owner = 0; owner < 4; owner++) {
                x.owner(owner, 9, 0, false);
            }
            dueStrongest(c, x, 0, 15, 5);
        });
        checks.test("21: both ways tell the same in cities whose gangways bear this and that", c -> {
            for (int times = 3; times <= 17; times += 2) {
                RoofOrdinances x = new RoofOrdinances();
                for (int gangway : Edges.GANGWAYS) {
                    x.bears(gangway, gangway * times % 10);
                }
                for (int pair = 0; pair < 100; pair++) {
                    int from = pair % 16;
                    int to = pair * times % 16;
                    c.due(times + ": from " + from + " to " + to, x.strongest(from, to, 1), x.strongest(from, to, 0));
                }
            }
        });
    }

    private static RoofOrdinances snake(int much) {
        RoofOrdinances x = Edges.withoutGangways();
        for (int gangway : SNAKE_GANGWAYS) {
            x.bears(gangway, much);
        }
        return x;
    }

    private static void stepsRanges(Checks checks) {
        checks.test("22: no such owner is INVALID_ARGUMENT", c -> {
            RoofOrdinances x = new RoofOrdinances();
            for (int owner : Edges.noOwners()) {
                c.due("steps(" + owner + ", 0)", x.steps(owner, 0), INVALID);
            }
        });
        checks.test("22: no such roof is INVALID_ARGUMENT", c -> {
            RoofOrdinances x = new RoofOrdinances();
            for (int roof : Edges.noRoofs()) {
                c.due("steps(0, " + roof + ")", x.steps(0, roof), INVALID);
            }
        });
        checks.test("22: INVALID_ARGUMENT ahead of NOT_FOUND", c -> {
            RoofOrdinances x = Edges.withoutGangways();
            c.due("steps(0, 16)", x.steps(0, 16), INVALID);
            c.due("steps(4, 1)", x.steps(4, 1), INVALID);
        });
    }

    private static void stepsEnds(Checks checks) {
        checks.test("22: 0, if the owner is there, also without keys and gangways", c -> {
            RoofOrdinances x = Edges.withoutGangways();
            for (int owner = 0; owner < 4; owner++) {
                x.owner(owner, 9, 0, false);
                c.due("steps(" + owner + ", " + 5 * owner + ")", x.steps(owner, 5 * owner), 0);
            }
        });
        checks.test("22: NOT_FOUND, if there is no way", c -> {
            RoofOrdinances x = Edges.withoutGangways();
            for (int roof = 1; roof < 16; roof++) {
                c.due("steps(0, " + roof + ")", x.steps(0, roof), NOT_FOUND);
            }
        });
        checks.test("22: each owner to each roof of a new city", c -> {
            RoofOrdinances x = new RoofOrdinances();
            for (int owner = 0; owner < 4; owner++) {
                for (int roof = 0; roof < 16; roof++) {
                    c.due("steps(" + owner + ", " + roof + ")", x.steps(owner, roof), Edges.distance(5 * owner, roof));
                }
            }
        });
        checks.test("22: the longest way has 15 steps", c -> {
            RoofOrdinances x = snake(5);
            for (int index = 0; index < SNAKE.length; index++) {
                c.due("steps(0, " + SNAKE[index] + ")", x.steps(0, SNAKE[index]), index);
            }
        });
        checks.test("22: a way that breaks at its last gangway is none", c -> {
            RoofOrdinances x = snake(5);
            x.bears(12, 0);
            c.due("steps(0, 13)", x.steps(0, 13), 14);
            c.due("steps(0, 12)", x.steps(0, 12), NOT_FOUND);
        });
        checks.test("22: from where the owner is now", c -> {
            RoofOrdinances x = new RoofOrdinances();
            x.walk(0, 0);
            c.due("steps(0, 0)", x.steps(0, 0), 1);
            c.due("steps(0, 1)", x.steps(0, 1), 0);
            c.due("steps(0, 15)", x.steps(0, 15), 5);
        });
    }

    private static void stepsReasons(Checks checks) {
        checks.test("22: no walk over a gangway that bears 0", c -> {
            RoofOrdinances x = new RoofOrdinances();
            x.bears(0, 0);
            c.due("steps(0, 1)", x.steps(0, 1), 3);
        });
        checks.test("22: no walk over one that bears less than the owner weighs, one over what bears as much", c -> {
            RoofOrdinances x = new RoofOrdinances();
            x.bears(0, 2);
            c.due("bears 2", x.steps(0, 1), 3);
            x.bears(0, 3);
            c.due("bears 3", x.steps(0, 1), 1);
            x.owner(0, 5, 65535, false);
            c.due("weight 5, bears 3", x.steps(0, 1), 3);
            x.owner(0, 6, 65535, false);
            c.due("weight 6", x.steps(0, 1), NOT_FOUND);
        });
        checks.test("22: no walk under another's line, one under the owner's own", c -> {
            RoofOrdinances x = new RoofOrdinances();
            x.hang(1, 0);
            c.due("another's line", x.steps(0, 1), 3);
            x.take(1, 0);
            x.hang(0, 0);
            c.due("one's own", x.steps(0, 1), 1);
        });
        checks.test("22: no walk to a roof without its key, on the way, or at its end", c -> {
            RoofOrdinances x = new RoofOrdinances();
            x.owner(0, 3, 65535 & ~(1 << 1), false);
            c.due("round the roof 1", x.steps(0, 2), 4);
            c.due("to the roof 1", x.steps(0, 1), NOT_FOUND);
            x.owner(0, 3, 65535 & ~(1 << 1 | 1 << 4), false);
            c.due("shut in", x.steps(0, 2), NOT_FOUND);
        });
        checks.test("22: the key of the roof where the owner is isn't needed to leave it", c -> {
            RoofOrdinances x = new RoofOrdinances();
            x.owner(0, 3, 65535 & ~1, false);
            c.due("steps(0, 15)", x.steps(0, 15), 6);
            c.due("steps(0, 0)", x.steps(0, 0), 0);
        });
        checks.test("22: smoke, coops and the other owners are in nobody's way", c -> {
            RoofOrdinances x = new RoofOrdinances();
            x.bears(16, 0);
            x.chimney(1);
            x.coop(1);
            x.walk(1, 17);
            c.due("steps(0, 1)", x.steps(0, 1), 1);
        });
        checks.test("22: one owner's keys, weight and lines are not another's", c -> {
            RoofOrdinances x = new RoofOrdinances();
            x.owner(0, 9, 0, false);
            x.hang(3, 27);
            c.due("steps(1, 0)", x.steps(1, 0), 2);
            c.due("steps(3, 11)", x.steps(3, 11), 1);
            c.due("steps(2, 15)", x.steps(2, 15), 2);
            x.hang(3, 14);
            c.due("steps(2, 15)", x.steps(2, 15), NOT_FOUND);
        });
    }

    private static void stepsChangeNothing(Checks checks) {
        checks.test("22: the owner stays, no walk is counted, and none refused", c -> {
            RoofOrdinances x = new RoofOrdinances();
            x.bears(0, 0);
            x.steps(0, 1);
            x.steps(0, 15);
            c.due("ownerOf(0, 3)", x.ownerOf(0, 3), 0);
            c.due("ownerOf(0, 7)", x.ownerOf(0, 7), 0);
            c.due("count(13)", x.count(13), 0);
            c.due("count(17)", x.count(17), 1);
        });
        checks.test("22: so many walks lead there", c -> {
            RoofOrdinances x = snake(5);
            int walks = 0;
            for (int gangway : SNAKE_GANGWAYS) {
                c.due("steps(0, 12)", x.steps(0, 12), 15 - walks);
                walks++;
                c.due("walk(0, " + gangway + ")", x.walk(0, gangway), 10 + SNAKE[walks]);
            }
            c.due("steps(0, 12)", x.steps(0, 12), 0);
        });
    }
}
