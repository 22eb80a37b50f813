/** The sentences of promises 29 to 31, and of "Changes", that name a boundary case: a test for each. */
final class HistoryEdgeTests {
    private static final int NOT_POSSIBLE = Edges.NOT_POSSIBLE;

    private HistoryEdgeTests() {
    }

    static void all(Checks checks) {
        limit(checks);
        withoutDifference(checks);
        refusedChanges(checks);
        undo(checks);
        undoLeaves(checks);
        undoBrings(checks);
        save(checks);
        restore(checks);
        restoreLeaves(checks);
        restoreIsChange(checks);
        wholeStates(checks);
    }

    private static void limit(Checks checks) {
        checks.test("29: four changes can be undone", c -> {
            RoofOrdinances x = new RoofOrdinances();
            days(x, 4);
            c.due("count(17)", x.count(17), 4);
            for (int left = 3; left >= 0; left--) {
                c.due("undo()", x.undo(), left);
                c.due("count(0)", x.count(0), left);
            }
            c.due("undo()", x.undo(), NOT_POSSIBLE);
        });
        checks.test("29: with the fifth change the oldest state is dropped", c -> {
            RoofOrdinances x = new RoofOrdinances();
            days(x, 5);
            c.due("count(17)", x.count(17), 4);
            for (int left = 3; left >= 0; left--) {
                c.due("undo()", x.undo(), left);
                c.due("count(0)", x.count(0), left + 1);
            }
            c.due("undo()", x.undo(), NOT_POSSIBLE);
            c.due("count(0)", x.count(0), 1);
        });
        checks.test("29: a dropped state doesn't come back, if others are undone", c -> {
            RoofOrdinances x = new RoofOrdinances();
            days(x, 5);
            x.undo();
            x.undo();
            c.due("count(17)", x.count(17), 2);
            days(x, 1);
            c.due("count(17)", x.count(17), 3);
            c.due("undo()", x.undo(), 2);
            c.due("undo()", x.undo(), 1);
            c.due("undo()", x.undo(), 0);
            c.due("undo()", x.undo(), NOT_POSSIBLE);
            c.due("count(0)", x.count(0), 1);
        });
        checks.test("29: after many changes the latest four are undone", c -> {
            RoofOrdinances x = new RoofOrdinances();
            days(x, 400);
            for (int left = 3; left >= 0; left--) {
                c.due("undo()", x.undo(), left);
            }
            c.due("count(0)", x.count(0), 396);
            c.due("undo()", x.undo(), NOT_POSSIBLE);
        });
        checks.test("29: the history can be emptied and filled again and again", c -> {
            RoofOrdinances x = new RoofOrdinances();
            for (int time = 0; time < 20; time++) {
                days(x, 6);
                for (int left = 3; left >= 0; left--) {
                    c.due("undo()", x.undo(), left);
                }
                c.due("undo()", x.undo(), NOT_POSSIBLE);
                c.due("count(0)", x.count(0), 2 * time + 2);
            }
        });
    }

    private static void days(RoofOrdinances x, int days) {
        for (int day = 0; day < days; day++) {
            x.day();
        }
    }

    private static void withoutDifference(Checks checks) {
        checks.test("29: bears is a change, also if the gangway bears the same", c -> {
            RoofOrdinances x = new RoofOrdinances();
            x.bears(0, 5);
            c.due("count(17)", x.count(17), 1);
        });
        checks.test("29: wind is a change, also if it blows there", c -> {
            RoofOrdinances x = new RoofOrdinances();
            x.wind(0);
            c.due("count(17)", x.count(17), 1);
        });
        checks.test("29: owner is a change, also if all is the same", c -> {
            RoofOrdinances x = new RoofOrdinances();
            x.owner(0, 3, 65535, false);
            c.due("count(17)", x.count(17), 1);
        });
        checks.test("29: reach is a change, also if it is the same", c -> {
            RoofOrdinances x = new RoofOrdinances();
            x.reach(2);
            c.due("count(17)", x.count(17), 1);
        });
        checks.test("29: restore is a change, also if all is the same", c -> {
            RoofOrdinances x = new RoofOrdinances();
            x.save();
            x.restore();
            x.restore();
            c.due("count(17)", x.count(17), 2);
        });
        checks.test("29: chimney, coop and day are changes", c -> {
            RoofOrdinances x = new RoofOrdinances();
            x.chimney(0);
            c.due("count(17)", x.count(17), 1);
            x.coop(0);
            c.due("count(17)", x.count(17), 2);
            x.day();
            c.due("count(17)", x.count(17), 3);
        });
        checks.test("29: hang, take and walk are changes", c -> {
            RoofOrdinances x = new RoofOrdinances();
            x.hang(0, 0);
            c.due("count(17)", x.count(17), 1);
            x.take(0, 0);
            c.due("count(17)", x.count(17), 2);
            x.walk(0, 0);
            c.due("count(17)", x.count(17), 3);
        });
        checks.test("29: append, clear, fault, save and undo are no changes", c -> {
            RoofOrdinances x = new RoofOrdinances();
            x.append('d');
            x.fault();
            x.clear();
            x.save();
            c.due("count(17)", x.count(17), 0);
            x.day();
            x.undo();
            c.due("count(17)", x.count(17), 0);
        });
    }

    private static void refusedChanges(Checks checks) {
        checks.test("29: what is refused for a reason is a change that can be undone", c -> {
            RoofOrdinances x = new RoofOrdinances();
            x.bears(0, 0);
            c.due("hang(0, 0)", x.hang(0, 0), 1);
            c.due("take(0, 0)", x.take(0, 0), 6);
            c.due("walk(0, 0)", x.walk(0, 0), 1);
            c.due("count(17)", x.count(17), 4);
            for (int left = 3; left >= 1; left--) {
                c.due("count(13)", x.count(13), left);
                c.due("undo()", x.undo(), left);
            }
            c.due("count(13)", x.count(13), 0);
        });
        checks.test("29: a refused order drops the oldest state, too", c -> {
            RoofOrdinances x = new RoofOrdinances();
            days(x, 4);
            x.take(0, 0);
            for (int left = 3; left >= 0; left--) {
                c.due("undo()", x.undo(), left);
            }
            c.due("count(0)", x.count(0), 1);
        });
    }

    private static void undo(Checks checks) {
        checks.test("29: NOT_POSSIBLE in a new city", c -> {
            RoofOrdinances x = new RoofOrdinances();
            c.due("undo()", x.undo(), NOT_POSSIBLE);
            c.due("count(17)", x.count(17), 0);
        });
        checks.test("29: an undo isn't undone", c -> {
            RoofOrdinances x = new RoofOrdinances();
            x.wind(1);
            x.wind(2);
            x.undo();
            c.due("undo()", x.undo(), 0);
            c.due("count(1)", x.count(1), 0);
        });
        checks.test("29: behind an undo a change records the state that came back", c -> {
            RoofOrdinances x = new RoofOrdinances();
            x.wind(1);
            x.wind(2);
            x.undo();
            x.wind(3);
            c.due("undo()", x.undo(), 1);
            c.due("count(1)", x.count(1), 1);
            c.due("undo()", x.undo(), 0);
            c.due("count(1)", x.count(1), 0);
        });
    }

    private static void undoLeaves(Checks checks) {
        checks.test("29: the pad is not undone", c -> {
            RoofOrdinances x = new RoofOrdinances();
            x.day();
            Texts.put(x, "c1,");
            x.undo();
            c.due("count(16)", x.count(16), 3);
            c.due("fault()", x.fault(), 3);
            x.append('d');
            c.due("run()", x.run(), 2);
            x.undo();
            c.due("count(16)", x.count(16), 0);
        });
        checks.test("29: the snapshot is not undone", c -> {
            RoofOrdinances x = new RoofOrdinances();
            x.save();
            x.day();
            x.save();
            x.undo();
            x.restore();
            c.due("count(0)", x.count(0), 1);
        });
        checks.test("29: there is a snapshot, though all is undone from before it", c -> {
            RoofOrdinances x = new RoofOrdinances();
            x.hang(0, 0);
            x.save();
            x.undo();
            c.due("count(5)", x.count(5), 0);
            c.due("restore()", x.restore(), 1);
        });
        checks.test("29: why() is not undone", c -> {
            RoofOrdinances x = new RoofOrdinances();
            Texts.run(x, "d,d,t0:0");
            x.undo();
            c.due("why(0)", x.why(0), 6);
            c.due("why(1)", x.why(1), 2);
            c.due("why(2)", x.why(2), 4);
        });
    }

    private static void undoBrings(Checks checks) {
        checks.test("29: a fallen line comes back with its soot and spots", c -> {
            RoofOrdinances x = new RoofOrdinances();
            x.hang(1, 0);
            x.chimney(0);
            x.coop(1);
            x.day();
            x.bears(0, 0);
            c.due("undo()", x.undo(), 3);
            c.due("gangway(0, 0)", x.gangway(0, 0), 5);
            c.due("gangway(0, 3)", x.gangway(0, 3), 1);
            c.due("gangway(0, 4)", x.gangway(0, 4), 2);
            c.due("gangway(0, 5)", x.gangway(0, 5), 1);
            c.due("count(12)", x.count(12), 0);
        });
        checks.test("29: a line that was taken down comes back with its soot and spots", c -> {
            RoofOrdinances x = new RoofOrdinances();
            x.hang(1, 0);
            x.chimney(0);
            x.coop(1);
            x.day();
            c.due("take(1, 0)", x.take(1, 0), 13);
            x.undo();
            c.due("count(11)", x.count(11), 0);
            c.due("take(1, 0)", x.take(1, 0), 13);
        });
        checks.test("29: a walk is undone with its count", c -> {
            RoofOrdinances x = new RoofOrdinances();
            x.walk(0, 0);
            x.undo();
            c.due("ownerOf(0, 3)", x.ownerOf(0, 3), 0);
            c.due("ownerOf(0, 7)", x.ownerOf(0, 7), 0);
        });
        checks.test("29: the wind, a chimney and a coop are undone", c -> {
            RoofOrdinances x = new RoofOrdinances();
            x.wind(3);
            x.chimney(5);
            x.coop(9);
            x.undo();
            c.due("coops", x.count(4), 0);
            c.due("chimneys", x.count(2), 1);
            x.undo();
            c.due("chimneys", x.count(2), 0);
            c.due("wind", x.count(1), 3);
            x.undo();
            c.due("wind", x.count(1), 0);
        });
        checks.test("29: an owner is undone", c -> {
            RoofOrdinances x = new RoofOrdinances();
            x.owner(2, 9, 5, true);
            x.undo();
            c.due("weight", x.ownerOf(2, 0), 3);
            c.due("keys", x.ownerOf(2, 1), 65535);
            c.due("truce", x.ownerOf(2, 2), 0);
        });
        checks.test("29: a run is undone at once, with all that was ahead of it left", c -> {
            RoofOrdinances x = new RoofOrdinances();
            x.chimney(15);
            x.hang(1, 0);
            x.walk(3, 27);
            Texts.run(x, "d,c0,t1:0,w3:27,h3:4,h3:4,d");
            c.due("undo()", x.undo(), 3);
            c.due("chimneys", x.count(2), 1);
            c.due("gangway(0, 3)", x.gangway(0, 3), 1);
            c.due("gangway(4, 3)", x.gangway(4, 3), Edges.NOT_FOUND);
            c.due("ownerOf(3, 3)", x.ownerOf(3, 3), 11);
            c.due("day", x.count(0), 0);
            c.due("refused", x.count(13), 0);
        });
        checks.test("29: a day is undone with its lot, its wind and its number", c -> {
            RoofOrdinances x = new RoofOrdinances();
            x.day();
            x.undo();
            c.due("count(0)", x.count(0), 0);
            c.due("count(1)", x.count(1), 0);
            c.due("count(15)", x.count(15), 1);
        });
        checks.test("29: REACH, and lines hung so far, are undone", c -> {
            RoofOrdinances x = new RoofOrdinances();
            x.hang(0, 0);
            x.reach(0);
            x.undo();
            c.due("count(14)", x.count(14), 2);
            c.due("count(10)", x.count(10), 1);
            x.undo();
            c.due("count(10)", x.count(10), 0);
        });
        checks.test("29: the counters so far come back, each as it was", c -> {
            RoofOrdinances x = new RoofOrdinances();
            Texts.run(x, "h0:0,h0:1,h0:2,h0:4,h0:5,h0:6,t0:0,t0:1,t0:6");
            Texts.run(x, "w0:0,w1:21,w1:21,t0:0");
            x.bears(2, 0);
            x.bears(4, 0);
            x.day();
            c.due("undo()", x.undo(), 3);
            int[] want = {6, 3, 2, 1};
            for (int index = 0; index < want.length; index++) {
                c.due("count(" + (10 + index) + ")", x.count(10 + index), want[index]);
            }
            c.due("ownerOf(0, 7)", x.ownerOf(0, 7), 1);
            c.due("ownerOf(1, 7)", x.ownerOf(1, 7), 2);
        });
        checks.test("29: a restore is undone", c -> {
            RoofOrdinances x = new RoofOrdinances();
            x.save();
            x.day();
            x.hang(0, 0);
            x.restore();
            c.due("undo()", x.undo(), 2);
            c.due("count(0)", x.count(0), 1);
            c.due("count(5)", x.count(5), 1);
        });
    }

    private static RoofOrdinances cityWithSoiledLines() {
        RoofOrdinances x = new RoofOrdinances();
        x.hang(0, 0);
        x.hang(0, 14);
        x.hang(0, 5);
        x.chimney(0);
        x.coop(15);
        x.day();
        return x;
    }

    private static void save(Checks checks) {
        checks.test("30: it answers how many lines there are, from 0 to 24", c -> {
            RoofOrdinances x = new RoofOrdinances();
            int lines = 0;
            for (int gangway : Edges.GANGWAYS) {
                c.due("save()", x.save(), lines);
                x.hang(0, gangway);
                lines++;
            }
            c.due("save()", x.save(), 24);
        });
        checks.test("30: lines that are not clean are lines, too", c -> {
            RoofOrdinances x = cityWithSoiledLines();
            c.due("save()", x.save(), 3);
        });
        checks.test("30: it takes the place of the one that was", c -> {
            RoofOrdinances x = new RoofOrdinances();
            x.save();
            x.hang(0, 0);
            x.save();
            x.take(0, 0);
            c.due("restore()", x.restore(), 1);
        });
        checks.test("30: what changes later doesn't change the snapshot", c -> {
            RoofOrdinances x = new RoofOrdinances();
            x.hang(0, 0);
            x.save();
            x.coop(0);
            x.day();
            x.take(0, 0);
            x.restore();
            c.due("gangway(0, 3)", x.gangway(0, 3), 0);
            c.due("gangway(0, 5)", x.gangway(0, 5), 0);
            c.due("count(4)", x.count(4), 0);
        });
        checks.test("30: it is no change, and leaves the history", c -> {
            RoofOrdinances x = new RoofOrdinances();
            days(x, 4);
            x.save();
            c.due("count(17)", x.count(17), 4);
            x.undo();
            c.due("count(0)", x.count(0), 3);
        });
    }

    private static void restore(Checks checks) {
        checks.test("31: NOT_POSSIBLE without a snapshot, also after changes and undo", c -> {
            RoofOrdinances x = new RoofOrdinances();
            c.due("restore()", x.restore(), NOT_POSSIBLE);
            x.day();
            c.due("restore()", x.restore(), NOT_POSSIBLE);
            x.undo();
            c.due("restore()", x.restore(), NOT_POSSIBLE);
            c.due("count(17)", x.count(17), 0);
        });
        checks.test("31: it answers how many lines there are then", c -> {
            RoofOrdinances x = new RoofOrdinances();
            x.hang(0, 0);
            x.hang(1, 27);
            x.save();
            x.take(0, 0);
            c.due("restore()", x.restore(), 2);
            x.take(1, 27);
            x.take(0, 0);
            c.due("restore()", x.restore(), 2);
        });
        checks.test("31: lines that are not clean are lines, too", c -> {
            RoofOrdinances x = cityWithSoiledLines();
            x.save();
            x.take(0, 0);
            c.due("restore()", x.restore(), 3);
            c.due("count(6)", x.count(6), 1);
        });
        checks.test("31: 0 for a snapshot without lines", c -> {
            RoofOrdinances x = new RoofOrdinances();
            x.save();
            x.hang(0, 0);
            c.due("restore()", x.restore(), 0);
        });
        checks.test("31: the snapshot stays, whatever changes behind it", c -> {
            RoofOrdinances x = new RoofOrdinances();
            x.hang(3, 0);
            x.save();
            for (int time = 0; time < 10; time++) {
                x.take(3, 0);
                x.day();
                x.wind(3);
                c.due("restore()", x.restore(), 1);
                c.due("count(0)", x.count(0), 0);
                c.due("count(1)", x.count(1), 0);
                c.due("count(11)", x.count(11), 0);
            }
        });
    }

    private static void restoreLeaves(Checks checks) {
        checks.test("31: the pad is not restored", c -> {
            RoofOrdinances x = Texts.with("d,d");
            x.save();
            Texts.put(x, "c1,");
            x.restore();
            c.due("count(16)", x.count(16), 3);
            c.due("fault()", x.fault(), 3);
        });
        checks.test("31: the history is not restored", c -> {
            RoofOrdinances x = new RoofOrdinances();
            days(x, 2);
            x.save();
            x.undo();
            x.undo();
            x.restore();
            c.due("count(17)", x.count(17), 1);
            c.due("undo()", x.undo(), 0);
            c.due("count(0)", x.count(0), 0);
            c.due("undo()", x.undo(), NOT_POSSIBLE);
        });
        checks.test("31: why() is not restored", c -> {
            RoofOrdinances x = new RoofOrdinances();
            Texts.run(x, "t0:0");
            x.save();
            Texts.run(x, "d");
            x.restore();
            c.due("why(0)", x.why(0), Edges.NOT_FOUND);
        });
    }

    private static void restoreIsChange(Checks checks) {
        checks.test("31: it is a change, and drops the oldest of five states", c -> {
            RoofOrdinances x = new RoofOrdinances();
            x.save();
            days(x, 4);
            x.restore();
            c.due("count(17)", x.count(17), 4);
            c.due("undo()", x.undo(), 3);
            c.due("count(0)", x.count(0), 4);
            x.undo();
            x.undo();
            c.due("undo()", x.undo(), 0);
            c.due("count(0)", x.count(0), 1);
        });
        checks.test("31: the counters so far are restored", c -> {
            RoofOrdinances x = new RoofOrdinances();
            x.save();
            x.hang(0, 0);
            x.take(0, 0);
            x.take(0, 0);
            x.hang(0, 1);
            x.bears(1, 0);
            x.walk(0, 0);
            x.restore();
            for (int what = 10; what <= 13; what++) {
                c.due("count(" + what + ")", x.count(what), 0);
            }
            c.due("ownerOf(0, 7)", x.ownerOf(0, 7), 0);
        });
    }

    private static void wholeStates(Checks checks) {
        checks.test("29: four changes undone bring all back as it was", c -> {
            RoofOrdinances x = Portraits.lively();
            x.owner(0, 9, 1, true);
            x.day();
            Texts.run(x, "c0,c5,c10,h3:27,d,d");
            x.bears(0, 0);
            for (int left = 3; left >= 0; left--) {
                c.due("undo()", x.undo(), left);
            }
            Portraits.due(c, "undo", Portraits.of(x), Portraits.of(Portraits.lively()));
        });
        checks.test("31: a snapshot brings all back as it was", c -> {
            RoofOrdinances x = Portraits.lively();
            x.save();
            x.owner(0, 9, 1, true);
            x.day();
            Texts.run(x, "c0,c5,c10,h3:27,d,d");
            x.bears(0, 0);
            x.reach(0);
            x.coop(7);
            x.wind(3);
            x.restore();
            Portraits.due(c, "restore", Portraits.of(x), Portraits.of(Portraits.lively()));
        });
    }
}
