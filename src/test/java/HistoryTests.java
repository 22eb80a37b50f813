import java.util.function.Consumer;

/** Promises 29 to 31. */
final class HistoryTests {
    private static final int NOT_POSSIBLE = RoofOrdinances.NOT_POSSIBLE;

    private HistoryTests() {
    }

    static void all(Checks checks) {
        checks.test("promise 29: undo", HistoryTests::undo);
        checks.test("promise 29: every change is undone", HistoryTests::everyChange);
        checks.test("promise 29: errors and looks are no changes", HistoryTests::noChanges);
        checks.test("promise 29: pad, snapshot and why() are not undone", HistoryTests::notUndone);
        checks.test("promise 30: save", HistoryTests::save);
        checks.test("promise 31: restore", HistoryTests::restore);
    }

    private static void undo(Checks c) {
        RoofOrdinances x = new RoofOrdinances();
        c.due("undo()", x.undo(), NOT_POSSIBLE);
        for (int days = 1; days <= 7; days++) {
            x.day();
            c.due("count(17)", x.count(17), Math.min(days, 4));
        }
        for (int left = 3; left >= 0; left--) {
            c.due("undo()", x.undo(), left);
            c.due("count(17)", x.count(17), left);
            c.due("day", x.count(0), 3 + left);
        }
        c.due("undo()", x.undo(), NOT_POSSIBLE);
        c.due("day", x.count(0), 3);
        x.day();
        x.wind(2);
        c.due("undo()", x.undo(), 1);
        x.wind(3);
        c.due("undo()", x.undo(), 1);
        c.due("undo()", x.undo(), 0);
        c.due("day", x.count(0), 3);
    }

    private static void dueUndone(Checks c, String call, Consumer<RoofOrdinances> change) {
        int[] before = Portraits.of(Portraits.lively());
        RoofOrdinances x = Portraits.lively();
        change.accept(x);
        c.due("states after " + call, x.count(17), 4);
        c.due("undo() after " + call, x.undo(), 3);
        Portraits.due(c, call, Portraits.of(x), before);
    }

    private static void everyChange(Checks c) {
        dueUndone(c, "bears", x -> x.bears(0, 0));
        dueUndone(c, "wind", x -> x.wind(3));
        dueUndone(c, "chimney", x -> x.chimney(4));
        dueUndone(c, "coop", x -> x.coop(9));
        dueUndone(c, "owner", x -> x.owner(2, 9, 5, true));
        dueUndone(c, "reach", x -> x.reach(1));
        dueUndone(c, "hang", x -> x.hang(1, 25));
        dueUndone(c, "a refused hang", x -> x.hang(0, 0));
        dueUndone(c, "take", x -> x.take(0, 0));
        dueUndone(c, "a refused take", x -> x.take(1, 0));
        dueUndone(c, "walk", x -> x.walk(3, 14));
        dueUndone(c, "a refused walk", x -> x.walk(1, 17));
        dueUndone(c, "day", RoofOrdinances::day);
        dueUndone(c, "run", x -> Texts.run(x, "c0,d,h3:25,t0:0,w3:14,w3:0"));
        RoofOrdinances x = Portraits.lively();
        x.save();
        Texts.run(x, "c0,d,h3:25,t0:0,w3:14,w3:0");
        RoofOrdinances y = Portraits.lively();
        Texts.run(y, "c0,d,h3:25,t0:0,w3:14,w3:0");
        x.restore();
        c.due("undo() after restore", x.undo(), 3);
        Portraits.due(c, "restore", Portraits.of(x), Portraits.of(y));
    }

    private static void noChanges(Checks c) {
        RoofOrdinances x = new RoofOrdinances();
        x.bears(3, 1);
        x.wind(4);
        x.chimney(16);
        x.coop(16);
        x.owner(4, 1, 1, true);
        x.reach(4);
        x.hang(4, 0);
        x.take(0, 3);
        x.walk(0, 27);
        x.walk(0, 28);
        x.append(100);
        x.clear();
        x.run();
        x.restore();
        x.save();
        x.ifDays(30, 0);
        x.bestPlace(0);
        x.bestWind();
        x.undo();
        c.due("count(17)", x.count(17), 0);
        x.bears(0, 5);
        x.wind(0);
        x.owner(0, 3, 65535, false);
        x.reach(2);
        c.due("changes without a difference", x.count(17), 4);
    }

    private static void notUndone(Checks c) {
        RoofOrdinances x = new RoofOrdinances();
        Texts.run(x, "d,t0:0");
        x.day();
        Texts.put(x, "abc");
        x.save();
        x.day();
        x.undo();
        x.undo();
        c.due("pad", x.count(16), 3);
        c.due("why(1)", x.why(1), 1);
        x.undo();
        c.due("why(1)", x.why(1), 1);
        c.due("refused", x.count(13), 0);
        c.due("day", x.count(0), 0);
        c.due("restore()", x.restore(), 0);
        c.due("the snapshot stays", x.count(0), 2);
        c.due("refused", x.count(13), 1);
        c.due("pad", x.count(16), 3);
    }

    private static void save(Checks c) {
        RoofOrdinances x = new RoofOrdinances();
        c.due("save()", x.save(), 0);
        x.hang(0, 0);
        x.hang(0, 1);
        c.due("save()", x.save(), 2);
        c.due("no change", x.count(17), 2);
        x.take(0, 0);
        c.due("restore(), the later snapshot", x.restore(), 2);
    }

    private static void restore(Checks c) {
        RoofOrdinances x = Portraits.lively();
        c.due("restore()", x.restore(), NOT_POSSIBLE);
        c.due("no change", x.count(17), 4);
        x.save();
        int[] before = Portraits.of(Portraits.lively());
        x.bears(0, 0);
        x.hang(3, 25);
        x.walk(3, 14);
        x.owner(0, 9, 0, true);
        x.chimney(9);
        x.coop(9);
        x.day();
        c.due("restore()", x.restore(), 2);
        x.day();
        x.undo();
        c.due("day", x.count(0), 1);
        x.reach(0);
        c.due("restore() once more", x.restore(), 2);
        Portraits.due(c, "restore", Portraits.of(x), before);
        // The history is no part of the snapshot.
        RoofOrdinances y = new RoofOrdinances();
        y.save();
        y.day();
        y.day();
        c.due("restore()", y.restore(), 0);
        c.due("count(17)", y.count(17), 3);
        c.due("undo()", y.undo(), 2);
        c.due("day", y.count(0), 2);
        Texts.put(y, "ab");
        y.restore();
        c.due("day", y.count(0), 0);
        c.due("pad", y.count(16), 2);
    }
}
