import java.util.function.Supplier;

/**
 * "A call that returns an error changes nothing (the pad stays, too)", and of looks and of what would be
 * "nothing is changed": for each call of the face that can return an error, or that only looks.
 */
final class NothingChangedTests {
    private static final int INVALID = Edges.INVALID;

    private NothingChangedTests() {
    }

    static void all(Checks checks) {
        errorsOfTheCity(checks);
        errorsOfOrders(checks);
        errorsOfTexts(checks);
        errorsOfLooks(checks);
        errorsOfHistory(checks);
        looksAtRoofs(checks);
        looksAtOwners(checks);
        whatWouldBe(checks);
    }

    private static void none(Checks checks, String call, int want, Portraits.Answer answer) {
        none(checks, call, want, Portraits::livelyWithAll, answer);
    }

    private static void none(Checks checks, String call, int want, Supplier<RoofOrdinances> city,
            Portraits.Answer answer) {
        checks.test(call + " returns an error and changes nothing", c -> {
            c.due(call, answer.of(city.get()), want);
            Portraits.dueNothingChanged(c, call, city, answer::of);
        });
    }

    private static void look(Checks checks, String call, Portraits.Answer answer) {
        checks.test(call + " changes nothing", c -> {
            int first = answer.of(Portraits.livelyWithAll());
            RoofOrdinances x = Portraits.livelyWithAll();
            answer.of(x);
            c.due(call + " once more", answer.of(x), first);
            Portraits.dueNothingChanged(c, call, answer::of);
        });
    }

    private static void errorsOfTheCity(Checks checks) {
        none(checks, "bears(3, 0)", INVALID, x -> x.bears(3, 0));
        none(checks, "bears(28, 0)", INVALID, x -> x.bears(28, 0));
        none(checks, "bears(0, 10)", INVALID, x -> x.bears(0, 10));
        none(checks, "bears(0, -1)", INVALID, x -> x.bears(0, -1));
        none(checks, "wind(4)", INVALID, x -> x.wind(4));
        none(checks, "wind(-1)", INVALID, x -> x.wind(-1));
        none(checks, "chimney(16)", INVALID, x -> x.chimney(16));
        none(checks, "chimney(-1)", INVALID, x -> x.chimney(-1));
        none(checks, "coop(16)", INVALID, x -> x.coop(16));
        none(checks, "coop(-1)", INVALID, x -> x.coop(-1));
        none(checks, "owner(4, 1, 1, true)", INVALID, x -> x.owner(4, 1, 1, true));
        none(checks, "owner(0, 10, 1, true)", INVALID, x -> x.owner(0, 10, 1, true));
        none(checks, "owner(0, 0, 1, true)", INVALID, x -> x.owner(0, 0, 1, true));
        none(checks, "owner(0, 1, 65536, true)", INVALID, x -> x.owner(0, 1, 65536, true));
        none(checks, "owner(0, 1, -1, true)", INVALID, x -> x.owner(0, 1, -1, true));
        none(checks, "reach(4)", INVALID, x -> x.reach(4));
        none(checks, "reach(-1)", INVALID, x -> x.reach(-1));
    }

    private static void errorsOfOrders(Checks checks) {
        none(checks, "hang(4, 0)", INVALID, x -> x.hang(4, 0));
        none(checks, "hang(0, 15)", INVALID, x -> x.hang(0, 15));
        none(checks, "take(-1, 0)", INVALID, x -> x.take(-1, 0));
        none(checks, "take(0, 31)", INVALID, x -> x.take(0, 31));
        none(checks, "walk(4, 0)", INVALID, x -> x.walk(4, 0));
        none(checks, "walk(0, 7)", INVALID, x -> x.walk(0, 7));
        none(checks, "walk(0, 27)", Edges.NOT_POSSIBLE, x -> x.walk(0, 27));
    }

    private static void errorsOfTexts(Checks checks) {
        none(checks, "append(32)", INVALID, x -> x.append(32));
        none(checks, "append(127)", INVALID, x -> x.append(127));
        none(checks, "append(100) to a full pad", Edges.LIMIT_REACHED,
                () -> Texts.put(Portraits.lively(), "d,".repeat(29) + "c0"), x -> x.append(100));
        none(checks, "append(32) to a full pad", INVALID,
                () -> Texts.put(Portraits.lively(), "d,".repeat(29) + "c0"), x -> x.append(32));
        none(checks, "run() of an empty pad", Edges.NOT_POSSIBLE,
                () -> Texts.put(Portraits.livelyWithAll(), ""), RoofOrdinances::run);
        none(checks, "run() of a pad that is not complete", Edges.NOT_POSSIBLE,
                () -> Texts.put(Portraits.livelyWithAll(), "d,c1,"), RoofOrdinances::run);
        none(checks, "run() of a wrong pad", Edges.NOT_POSSIBLE,
                () -> Texts.put(Portraits.livelyWithAll(), "d,c1,h0:3"), RoofOrdinances::run);
        none(checks, "why(3)", INVALID, x -> x.why(3));
        none(checks, "why(0) without a stop", Edges.NOT_FOUND, RoofOrdinances::new, x -> x.why(0));
        none(checks, "fault() of a pad without one", Edges.NOT_FOUND, RoofOrdinances::fault);
    }

    private static void errorsOfLooks(Checks checks) {
        none(checks, "roof(16, 0)", INVALID, x -> x.roof(16, 0));
        none(checks, "roof(0, 8)", INVALID, x -> x.roof(0, 8));
        none(checks, "gangway(11, 0)", INVALID, x -> x.gangway(11, 0));
        none(checks, "gangway(0, 7)", INVALID, x -> x.gangway(0, 7));
        none(checks, "gangway(27, 3) without a line", Edges.NOT_FOUND, x -> x.gangway(27, 3));
        none(checks, "ownerOf(4, 0)", INVALID, x -> x.ownerOf(4, 0));
        none(checks, "ownerOf(0, 9)", INVALID, x -> x.ownerOf(0, 9));
        none(checks, "whyNotHang(4, 0)", INVALID, x -> x.whyNotHang(4, 0));
        none(checks, "whyNotHang(0, 3)", INVALID, x -> x.whyNotHang(0, 3));
        none(checks, "strongest(16, 0, 0)", INVALID, x -> x.strongest(16, 0, 0));
        none(checks, "strongest(0, 1, 2)", INVALID, x -> x.strongest(0, 1, 2));
        none(checks, "strongest(0, 1, 0) without a way", Edges.NOT_FOUND,
                Edges::withoutGangways, x -> x.strongest(0, 1, 0));
        none(checks, "strongest(0, 1, 1) without a way", Edges.NOT_FOUND,
                Edges::withoutGangways, x -> x.strongest(0, 1, 1));
        none(checks, "steps(4, 0)", INVALID, x -> x.steps(4, 0));
        none(checks, "steps(0, 16)", INVALID, x -> x.steps(0, 16));
        none(checks, "steps(0, 1) without a way", Edges.NOT_FOUND, Edges::withoutGangways, x -> x.steps(0, 1));
        none(checks, "count(18)", INVALID, x -> x.count(18));
        none(checks, "ifWind(4)", INVALID, x -> x.ifWind(4));
        none(checks, "ifDays(0, 0)", INVALID, x -> x.ifDays(0, 0));
        none(checks, "ifDays(31, 0)", INVALID, x -> x.ifDays(31, 0));
        none(checks, "ifDays(1, 4)", INVALID, x -> x.ifDays(1, 4));
        none(checks, "bestPlace(4)", INVALID, x -> x.bestPlace(4));
        none(checks, "bestPlace(0) without a place", Edges.NOT_FOUND,
                Edges::withoutGangways, x -> x.bestPlace(0));
    }

    private static void errorsOfHistory(Checks checks) {
        none(checks, "undo() without a state", Edges.NOT_POSSIBLE,
                () -> Texts.with("d,c1"), RoofOrdinances::undo);
        none(checks, "restore() without a snapshot", Edges.NOT_POSSIBLE,
                () -> Texts.put(Portraits.lively(), "d,c1"), RoofOrdinances::restore);
    }

    private static void looksAtRoofs(Checks checks) {
        for (int what = 0; what < 8; what++) {
            int asked = what;
            look(checks, "roof(5, " + what + ")", x -> x.roof(5, asked));
        }
        for (int what = 0; what < 7; what++) {
            int asked = what;
            look(checks, "gangway(5, " + what + ")", x -> x.gangway(5, asked));
        }
        look(checks, "strongest(0, 15, 0)", x -> x.strongest(0, 15, 0));
        look(checks, "strongest(0, 15, 1)", x -> x.strongest(0, 15, 1));
    }

    private static void looksAtOwners(Checks checks) {
        for (int what = 0; what < 9; what++) {
            int asked = what;
            look(checks, "ownerOf(1, " + what + ")", x -> x.ownerOf(1, asked));
        }
        for (int what = 0; what < 18; what++) {
            int asked = what;
            look(checks, "count(" + what + ")", x -> x.count(asked));
        }
        look(checks, "whyNotHang(0, 0), refused", x -> x.whyNotHang(0, 0));
        look(checks, "whyNotHang(2, 25), not refused", x -> x.whyNotHang(2, 25));
        look(checks, "steps(0, 15)", x -> x.steps(0, 15));
        look(checks, "steps(3, 0)", x -> x.steps(3, 0));
        look(checks, "cleanness()", x -> (int) (1000 * x.cleanness()));
        look(checks, "why(1)", x -> x.why(1));
        look(checks, "fault()", RoofOrdinances::fault);
    }

    private static void whatWouldBe(Checks checks) {
        for (int to = 0; to < 4; to++) {
            int asked = to;
            look(checks, "ifWind(" + to + ")", x -> x.ifWind(asked));
            look(checks, "ifDays(30, " + to + ")", x -> x.ifDays(30, asked));
            look(checks, "ifDays(1, " + to + ")", x -> x.ifDays(1, asked));
            look(checks, "bestPlace(" + to + ")", x -> x.bestPlace(asked));
        }
        look(checks, "bestWind()", RoofOrdinances::bestWind);
    }
}
