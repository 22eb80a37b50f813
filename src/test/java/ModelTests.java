/** Long runs of calls, each answer compared with that of the model. */
final class ModelTests {
    // An object is promised for 512 calls; the longest step of a run, a text, makes fewer than 80.
    private static final int CALLS = 512 - 80;
    private static final int RUNS = 4000;
    private static final int[] EDGES = {-1, Integer.MIN_VALUE, Integer.MAX_VALUE, 3, 7, 11, 15, 16, 28, 31};

    private final Checks checks;
    private final int run;
    private final RoofOrdinances city = new RoofOrdinances();
    private final CityModel model = new CityModel();
    private long seed;
    private int calls;

    private ModelTests(Checks checks, int run) {
        this.checks = checks;
        this.run = run;
        seed = 7919L * run + 1;
    }

    static void all(Checks checks) {
        checks.test("runs of calls answer as the model does", ModelTests::compareRuns);
    }

    private static void compareRuns(Checks checks) {
        for (int run = 0; run < RUNS && checks.isFine(); run++) {
            ModelTests pair = new ModelTests(checks, run);
            while (pair.calls < CALLS && checks.isFine()) {
                pair.compareStep();
            }
        }
    }

    // A chain of numbers that is the same each time, so that a fault is found again.
    private int below(int bound) {
        seed = seed * 6364136223846793005L + 1442695040888963407L;
        return (int) Math.floorMod(seed >>> 33, (long) bound);
    }

    // Mostly a number of the range, and now and then one that may be out of it.
    private int number(int least, int greatest) {
        switch (below(40)) {
            case 0:
                return least - 1;
            case 1:
                return greatest + 1;
            case 2:
                return EDGES[below(EDGES.length)];
            default:
                return least + below(greatest - least + 1);
        }
    }

    private int anyOwner() {
        return number(0, 3);
    }

    private int anyRoof() {
        return number(0, 15);
    }

    private int anyGangway() {
        return number(0, 27);
    }

    private void same(String told, long got, long want) {
        calls++;
        checks.due("run " + run + ", call " + calls + ": " + told, got, want);
    }

    private void compareStep() {
        int step = below(run % 4 == 0 ? 20 : 16);
        if (step < 4) {
            compareCityCall();
        } else if (step < 11) {
            compareOrder();
        } else if (step < 13) {
            compareLook();
        } else if (step < 14) {
            compareSearch();
        } else if (step < 15) {
            compareHistory();
        } else {
            compareText();
        }
    }

    private void compareCityCall() {
        int a = anyGangway();
        int b = below(3) == 0 ? 0 : number(0, 9);
        int roof = anyRoof();
        switch (below(9)) {
            case 0:
            case 1:
                same("bears(" + a + ", " + b + ")", city.bears(a, b), model.bears(a, b));
                break;
            case 2:
                b = number(0, 3);
                same("wind(" + b + ")", city.wind(b), model.wind(b));
                break;
            case 3:
            case 4:
                same("chimney(" + roof + ")", city.chimney(roof), model.chimney(roof));
                break;
            case 5:
            case 6:
                same("coop(" + roof + ")", city.coop(roof), model.coop(roof));
                break;
            case 7:
                a = anyOwner();
                b = number(1, 9);
                int keys = below(3) == 0 ? number(0, 65535) : 65535 & ~(1 << below(16));
                boolean truce = below(2) == 0;
                same("owner(" + a + ", " + b + ", " + keys + ", " + truce + ")",
                        city.owner(a, b, keys, truce), model.owner(a, b, keys, truce));
                break;
            default:
                b = number(0, 3);
                same("reach(" + b + ")", city.reach(b), model.reach(b));
                break;
        }
    }

    private void compareOrder() {
        int owner = anyOwner();
        int gangway = anyGangway();
        switch (below(8)) {
            case 0:
            case 1:
            case 2:
                same("hang(" + owner + ", " + gangway + ")", city.hang(owner, gangway),
                        model.hang(owner, gangway));
                break;
            case 3:
                same("take(" + owner + ", " + gangway + ")", city.take(owner, gangway),
                        model.take(owner, gangway));
                break;
            case 4:
            case 5:
            case 6:
                gangway = below(4) > 0 ? gangwayBy(owner, gangway) : gangway;
                same("walk(" + owner + ", " + gangway + ")", city.walk(owner, gangway),
                        model.walk(owner, gangway));
                break;
            default:
                same("day()", city.day(), model.day());
                break;
        }
    }

    // A gangway of the roof where the owner is, so that walks are not mostly errors.
    private int gangwayBy(int owner, int otherwise) {
        int at = model.ownerOf(owner, 3);
        int[] near = {at, at - 1, at + 16, at + 12};
        return at < 0 ? otherwise : near[below(4)];
    }

    private void compareText() {
        same("clear()", city.clear(), model.clear());
        StringBuilder text = new StringBuilder();
        int parts = 1 + below(below(4) == 0 ? 30 : 5);
        for (int part = 0; part < parts && text.length() < 54; part++) {
            text.append(part == 0 ? "" : ",").append(anyPart());
        }
        if (below(5) == 0) {
            text.setCharAt(below(text.length()), "htwcd0123456789:,x!~".charAt(below(20)));
        }
        if (below(10) == 0) {
            text.setLength(below(text.length() + 1));
        }
        if (below(20) == 0) {
            text.append(",d,d,d,d,d,d,d,d", 0, 62 - Math.max(text.length(), 46));
        }
        for (int index = 0; index < text.length(); index++) {
            char sign = text.charAt(index);
            same("append(" + sign + ")", city.append(sign), model.append(sign));
        }
        int odd = number(33, 126);
        if (below(20) == 0) {
            same("append(" + odd + ")", city.append(odd), model.append(odd));
        }
        same("fault() of " + text, city.fault(), model.fault());
        if (below(3) > 0) {
            same("run() of " + text, city.run(), model.run());
        }
        for (int what = -1; what <= 3; what++) {
            same("why(" + what + ") after " + text, city.why(what), model.why(what));
        }
    }

    private String anyPart() {
        int owner = below(4);
        switch (below(6)) {
            case 0:
                return "d";
            case 1:
                return "c" + below(below(9) == 0 ? 40 : 16);
            case 2:
                return "t" + owner + ":" + below(28);
            case 3:
                return "w" + owner + ":" + gangwayBy(owner, 0);
            default:
                return "h" + owner + ":" + below(below(9) == 0 ? 40 : 28);
        }
    }

    private void compareLook() {
        int what = number(0, 17);
        same("count(" + what + ")", city.count(what), model.count(what));
        int roof = anyRoof();
        what = number(0, 7);
        same("roof(" + roof + ", " + what + ")", city.roof(roof, what), model.roof(roof, what));
        int gangway = anyGangway();
        what = number(0, 6);
        same("gangway(" + gangway + ", " + what + ")", city.gangway(gangway, what),
                model.gangway(gangway, what));
        int owner = anyOwner();
        what = number(0, 8);
        same("ownerOf(" + owner + ", " + what + ")", city.ownerOf(owner, what), model.ownerOf(owner, what));
        calls++;
        checks.dueDouble("run " + run + ", call " + calls + ": cleanness()", city.cleanness(), model.cleanness());
    }

    private void compareSearch() {
        int owner = anyOwner();
        int gangway = anyGangway();
        int from = anyRoof();
        int to = anyRoof();
        int way = number(0, 1);
        same("whyNotHang(" + owner + ", " + gangway + ")", city.whyNotHang(owner, gangway),
                model.whyNotHang(owner, gangway));
        same("strongest(" + from + ", " + to + ", " + way + ")", city.strongest(from, to, way),
                model.strongest(from, to, way));
        same("steps(" + owner + ", " + to + ")", city.steps(owner, to), model.steps(owner, to));
        int wind = number(0, 3);
        same("ifWind(" + wind + ")", city.ifWind(wind), model.ifWind(wind));
        same("bestWind()", city.bestWind(), model.bestWind());
        int days = number(1, 30);
        int what = number(0, 3);
        same("ifDays(" + days + ", " + what + ")", city.ifDays(days, what), model.ifDays(days, what));
        same("bestPlace(" + owner + ")", city.bestPlace(owner), model.bestPlace(owner));
    }

    private void compareHistory() {
        switch (below(5)) {
            case 0:
                same("save()", city.save(), model.save());
                break;
            case 1:
                same("restore()", city.restore(), model.restore());
                break;
            default:
                same("undo()", city.undo(), model.undo());
                break;
        }
    }
}
