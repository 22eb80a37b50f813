import java.util.function.Consumer;
import java.util.function.Supplier;

/** Looks at all of a city, to tell that two cities are the same, or that a call changed nothing. */
final class Portraits {
    private static final int WHAT_UNDO_KEEPS = 16;

    private Portraits() {
    }

    // These are 320 calls: one portrait an object is all that the document promises answers for.
    static int[] of(RoofOrdinances x) {
        int[] rows = new int[28 * 5 + 16 * 8 + 4 * 9 + WHAT_UNDO_KEEPS];
        int at = 0;
        for (int gangway = 0; gangway < 28; gangway++) {
            for (int what : new int[] {0, 3, 4, 5, 6}) {
                rows[at++] = x.gangway(gangway, what);
            }
        }
        for (int roof = 0; roof < 16; roof++) {
            for (int what = 0; what < 8; what++) {
                rows[at++] = x.roof(roof, what);
            }
        }
        for (int owner = 0; owner < 4; owner++) {
            for (int what = 0; what < 9; what++) {
                rows[at++] = x.ownerOf(owner, what);
            }
        }
        for (int what = 0; what < WHAT_UNDO_KEEPS; what++) {
            rows[at++] = x.count(what);
        }
        return rows;
    }

    static void due(Checks c, String call, int[] got, int[] want) {
        for (int index = 0; index < want.length; index++) {
            c.due(call + ", row " + index + " of the portrait", got[index], want[index]);
        }
    }

    static RoofOrdinances lively() {
        RoofOrdinances x = new RoofOrdinances();
        Texts.run(x, "h0:0,h1:5,h2:26,c4,d,w0:0,w3:14,t2:26,h2:27");
        x.coop(1);
        x.owner(1, 4, 65535 - 4, true);
        x.reach(3);
        x.bears(1, 7);
        x.bears(27, 0);
        x.hang(0, 5);
        return x;
    }

    /** A lively city with a snapshot, four states, a stop of run() and a text on its pad. */
    static RoofOrdinances livelyWithAll() {
        RoofOrdinances x = lively();
        x.save();
        Texts.run(x, "d,w0:1,h0:1,t1:0");
        x.chimney(13);
        x.wind(2);
        x.coop(15);
        return Texts.put(x, "c9,d,w2:9");
    }

    static void dueNothingChanged(Checks c, String call, Consumer<RoofOrdinances> change) {
        dueNothingChanged(c, call, Portraits::livelyWithAll, change);
    }

    /**
     * Compares a city behind the call with one without it: as it is, and what its history, its
     * snapshot and its pad bring. Each time on new objects, as one has no calls for two portraits.
     */
    static void dueNothingChanged(Checks c, String call, Supplier<RoofOrdinances> city,
            Consumer<RoofOrdinances> change) {
        dueSameAfter(c, call, city, change, x -> 0);
        dueSameAfter(c, call + " and undo()", city, change, RoofOrdinances::undo);
        dueSameAfter(c, call + " and each undo()", city, change, Portraits::undoAll);
        dueSameAfter(c, call + " and restore()", city, change, RoofOrdinances::restore);
        dueSameAfter(c, call + " and run()", city, change, RoofOrdinances::run);
    }

    /** A call that answers a number. */
    interface Answer {
        int of(RoofOrdinances x);
    }

    private static int undoAll(RoofOrdinances x) {
        int undone = 0;
        while (undone < 5 && x.undo() >= 0) {
            undone++;
        }
        return undone;
    }

    private static void dueSameAfter(Checks c, String told, Supplier<RoofOrdinances> city,
            Consumer<RoofOrdinances> change, Answer then) {
        RoofOrdinances got = city.get();
        RoofOrdinances want = city.get();
        change.accept(got);
        c.due(told, then.of(got), then.of(want));
        c.due(told + ", count(16)", got.count(16), want.count(16));
        c.due(told + ", count(17)", got.count(17), want.count(17));
        c.due(told + ", fault()", got.fault(), want.fault());
        for (int what = 0; what < 3; what++) {
            c.due(told + ", why(" + what + ")", got.why(what), want.why(what));
        }
        due(c, told, of(got), of(want));
    }
}
