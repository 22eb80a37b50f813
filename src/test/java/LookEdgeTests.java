/** The sentences of promises 17 to 20, 23 and 24 that name a boundary case: a test for each. */
final class LookEdgeTests {
    private static final int INVALID = Edges.INVALID;
    private static final int NOT_FOUND = Edges.NOT_FOUND;

    private LookEdgeTests() {
    }

    static void all(Checks checks) {
        roofRanges(checks);
        roofSmoke(checks);
        roofOwners(checks);
        roofGangways(checks);
        roofComeTo(checks);
        gangwayRanges(checks);
        gangwayLine(checks);
        gangwayRoofs(checks);
        ownerRanges(checks);
        ownerLines(checks);
        ownerCould(checks);
        ownerWalks(checks);
        whyNotHang(checks);
        countRanges(checks);
        countNow(checks);
        countSoFar(checks);
        countRefused(checks);
        cleanness(checks);
    }

    private static void roofRanges(Checks checks) {
        checks.test("17: no such roof is INVALID_ARGUMENT, whatever is asked", c -> {
            RoofOrdinances x = new RoofOrdinances();
            for (int roof : Edges.noRoofs()) {
                for (int what = 0; what < 8; what++) {
                    c.due("roof(" + roof + ", " + what + ")", x.roof(roof, what), INVALID);
                }
            }
        });
        checks.test("17: no such property is INVALID_ARGUMENT, of whatever roof", c -> {
            RoofOrdinances x = new RoofOrdinances();
            for (int what : Edges.outside(0, 7)) {
                for (int roof = 0; roof < 16; roof++) {
                    c.due("roof(" + roof + ", " + what + ")", x.roof(roof, what), INVALID);
                }
            }
        });
        checks.test("17: chimney and coop of a roof, on it alone", c -> {
            RoofOrdinances x = new RoofOrdinances();
            x.chimney(0);
            x.coop(15);
            for (int roof = 0; roof < 16; roof++) {
                c.due("roof(" + roof + ", 0)", x.roof(roof, 0), roof == 0 ? 1 : 0);
                c.due("roof(" + roof + ", 3)", x.roof(roof, 3), roof == 15 ? 1 : 0);
            }
        });
    }

    private static void roofSmoke(Checks checks) {
        checks.test("17: in the smoke of no chimney, of one, and of all in the row", c -> {
            RoofOrdinances x = new RoofOrdinances();
            x.reach(3);
            c.due("roof(3, 2)", x.roof(3, 2), 0);
            for (int chimney = 0; chimney < 4; chimney++) {
                x.chimney(chimney);
                c.due("roof(3, 2)", x.roof(3, 2), chimney + 1);
                c.due("roof(3, 1)", x.roof(3, 1), 1);
            }
            c.due("roof(0, 2)", x.roof(0, 2), 1);
            c.due("roof(2, 2)", x.roof(2, 2), 3);
            c.due("roof(4, 2)", x.roof(4, 2), 0);
        });
        checks.test("17: a chimney's own roof is in its smoke, with REACH 0, too", c -> {
            RoofOrdinances x = new RoofOrdinances();
            x.reach(0);
            x.chimney(15);
            c.due("roof(15, 1)", x.roof(15, 1), 1);
            c.due("roof(15, 2)", x.roof(15, 2), 1);
        });
        checks.test("17: REACH keeps far chimneys' smoke away", c -> {
            RoofOrdinances x = new RoofOrdinances();
            for (int chimney = 0; chimney < 4; chimney++) {
                x.chimney(chimney);
            }
            int[] want = {1, 2, 3, 4};
            for (int reach = 0; reach < 4; reach++) {
                x.reach(reach);
                c.due("roof(3, 2) with REACH " + reach, x.roof(3, 2), want[reach]);
            }
        });
    }

    private static void roofOwners(Checks checks) {
        checks.test("17: the set of owners is 0 on a roof without one", c -> {
            RoofOrdinances x = new RoofOrdinances();
            int[] want = new int[16];
            want[0] = 1;
            want[5] = 2;
            want[10] = 4;
            want[15] = 8;
            for (int roof = 0; roof < 16; roof++) {
                c.due("roof(" + roof + ", 4)", x.roof(roof, 4), want[roof]);
            }
        });
        checks.test("17: the set of owners is 15 on a roof with all four", c -> {
            RoofOrdinances x = new RoofOrdinances();
            Edges.walk(x, 0, 0, 17);
            Edges.walk(x, 2, 9, 21);
            c.due("three of them", x.roof(5, 4), 7);
            Edges.walk(x, 3, 14, 26, 9, 21);
            c.due("all of them", x.roof(5, 4), 15);
            c.due("none is left", x.roof(15, 4), 0);
        });
    }

    private static void roofGangways(Checks checks) {
        checks.test("17: gangways of a corner, of an edge and of the middle", c -> {
            RoofOrdinances x = new RoofOrdinances();
            int[] want = {2, 3, 3, 2, 3, 4, 4, 3, 3, 4, 4, 3, 2, 3, 3, 2};
            for (int roof = 0; roof < 16; roof++) {
                c.due("roof(" + roof + ", 5)", x.roof(roof, 5), want[roof]);
            }
        });
        checks.test("17: a gangway that bears 1 counts, one that bears 0 does not", c -> {
            RoofOrdinances x = new RoofOrdinances();
            x.bears(0, 1);
            c.due("roof(0, 5)", x.roof(0, 5), 2);
            x.bears(0, 0);
            c.due("roof(0, 5)", x.roof(0, 5), 1);
            c.due("roof(1, 5)", x.roof(1, 5), 2);
            x.bears(16, 0);
            c.due("roof(0, 5)", x.roof(0, 5), 0);
        });
        checks.test("17: lines over none of its gangways, and over all", c -> {
            RoofOrdinances x = new RoofOrdinances();
            c.due("roof(5, 6)", x.roof(5, 6), 0);
            int lines = 0;
            for (int gangway : new int[] {4, 5, 17, 21}) {
                x.hang(lines, gangway);
                lines++;
                c.due("roof(5, 6)", x.roof(5, 6), lines);
            }
            c.due("roof(4, 6)", x.roof(4, 6), 1);
            c.due("roof(10, 6)", x.roof(10, 6), 0);
            x.bears(21, 0);
            c.due("roof(5, 6)", x.roof(5, 6), 3);
        });
    }

    private static void roofComeTo(Checks checks) {
        checks.test("17: lines that are not clean are lines over its gangways, too", c -> {
            RoofOrdinances x = new RoofOrdinances();
            x.hang(0, 4);
            x.hang(1, 5);
            x.hang(2, 17);
            x.chimney(4);
            x.coop(1);
            x.day();
            c.due("no line is clean", x.count(6), 0);
            c.due("roof(5, 6)", x.roof(5, 6), 3);
        });
        checks.test("17: from a roof without gangways one comes to itself alone", c -> {
            RoofOrdinances x = Edges.withoutGangways();
            for (int roof = 0; roof < 16; roof++) {
                c.due("roof(" + roof + ", 7)", x.roof(roof, 7), 1);
            }
        });
        checks.test("17: over gangways that bear 1 one comes to all", c -> {
            RoofOrdinances x = new RoofOrdinances();
            for (int gangway : Edges.GANGWAYS) {
                x.bears(gangway, 1);
            }
            for (int roof = 0; roof < 16; roof++) {
                c.due("roof(" + roof + ", 7)", x.roof(roof, 7), 16);
            }
        });
        checks.test("17: over each gangway one comes to the two roofs of it", c -> {
            for (int gangway : Edges.GANGWAYS) {
                RoofOrdinances x = Edges.withoutGangways();
                x.bears(gangway, 1);
                for (int roof = 0; roof < 16; roof++) {
                    c.due("over " + gangway + ", roof(" + roof + ", 7)", x.roof(roof, 7),
                            Edges.leadsFrom(gangway, roof) ? 2 : 1);
                }
            }
        });
        checks.test("17: lines, keys and weights close no way there", c -> {
            RoofOrdinances x = new RoofOrdinances();
            for (int owner = 0; owner < 4; owner++) {
                x.owner(owner, 9, 65535, false);
            }
            x.hang(0, 0);
            x.hang(1, 16);
            x.owner(0, 9, 0, false);
            c.due("roof(0, 7)", x.roof(0, 7), 16);
        });
    }

    private static void gangwayRanges(Checks checks) {
        checks.test("18: a number that is no gangway is INVALID_ARGUMENT, whatever is asked", c -> {
            RoofOrdinances x = new RoofOrdinances();
            for (int gangway : Edges.noGangways()) {
                for (int what = 0; what < 7; what++) {
                    c.due("gangway(" + gangway + ", " + what + ")", x.gangway(gangway, what), INVALID);
                }
            }
        });
        checks.test("18: no such property is INVALID_ARGUMENT, also ahead of NOT_FOUND", c -> {
            RoofOrdinances x = new RoofOrdinances();
            x.hang(0, 27);
            for (int what : Edges.outside(0, 6)) {
                for (int gangway : Edges.GANGWAYS) {
                    c.due("gangway(" + gangway + ", " + what + ")", x.gangway(gangway, what), INVALID);
                }
            }
        });
        checks.test("18: a gangway that bears 0 is one still", c -> {
            RoofOrdinances x = new RoofOrdinances();
            x.bears(16, 0);
            c.due("gangway(16, 0)", x.gangway(16, 0), 0);
            c.due("gangway(16, 1)", x.gangway(16, 1), 0);
            c.due("gangway(16, 2)", x.gangway(16, 2), 4);
        });
    }

    private static void gangwayLine(Checks checks) {
        checks.test("18: NOT_FOUND for owner, soot and spots without a line", c -> {
            RoofOrdinances x = new RoofOrdinances();
            for (int gangway : Edges.GANGWAYS) {
                for (int what = 3; what <= 5; what++) {
                    c.due("gangway(" + gangway + ", " + what + ")", x.gangway(gangway, what), NOT_FOUND);
                }
            }
        });
        checks.test("18: 0 is the owner 0, no soot and no spots, if there is a line", c -> {
            RoofOrdinances x = new RoofOrdinances();
            x.hang(0, 0);
            for (int what = 3; what <= 5; what++) {
                c.due("gangway(0, " + what + ")", x.gangway(0, what), 0);
            }
        });
        checks.test("18: NOT_FOUND again, if the line was taken down, or fell", c -> {
            RoofOrdinances x = new RoofOrdinances();
            x.hang(3, 0);
            x.hang(3, 1);
            x.take(3, 0);
            x.bears(1, 0);
            for (int what = 3; what <= 5; what++) {
                c.due("gangway(0, " + what + ")", x.gangway(0, what), NOT_FOUND);
                c.due("gangway(1, " + what + ")", x.gangway(1, what), NOT_FOUND);
            }
        });
        checks.test("18: soot and spots of one line, not of another", c -> {
            RoofOrdinances x = new RoofOrdinances();
            x.hang(1, 0);
            x.hang(2, 27);
            x.chimney(0);
            x.coop(15);
            x.day();
            c.due("gangway(0, 4)", x.gangway(0, 4), 2);
            c.due("gangway(0, 5)", x.gangway(0, 5), 0);
            c.due("gangway(27, 4)", x.gangway(27, 4), 0);
            c.due("gangway(27, 5)", x.gangway(27, 5), 1);
        });
    }

    private static void gangwayRoofs(Checks checks) {
        checks.test("18: the lesser and the greater roof of each gangway", c -> {
            RoofOrdinances x = new RoofOrdinances();
            int[] lesser = {0, 1, 2, 4, 5, 6, 8, 9, 10, 12, 13, 14, 0, 1, 2, 3, 4, 5, 6, 7, 8, 9, 10, 11};
            int[] greater = {1, 2, 3, 5, 6, 7, 9, 10, 11, 13, 14, 15, 4, 5, 6, 7, 8, 9, 10, 11, 12, 13, 14, 15};
            for (int index = 0; index < lesser.length; index++) {
                int gangway = Edges.GANGWAYS[index];
                c.due("gangway(" + gangway + ", 1)", x.gangway(gangway, 1), lesser[index]);
                c.due("gangway(" + gangway + ", 2)", x.gangway(gangway, 2), greater[index]);
            }
        });
        checks.test("18: none of its roofs in smoke, one, or both, without a line, too", c -> {
            RoofOrdinances x = new RoofOrdinances();
            x.chimney(1);
            c.due("gangway(16, 6)", x.gangway(16, 6), 0);
            c.due("gangway(0, 6), the greater one", x.gangway(0, 6), 1);
            c.due("gangway(17, 6), the lesser one", x.gangway(17, 6), 1);
            c.due("gangway(2, 6)", x.gangway(2, 6), 2);
        });
    }

    private static void ownerRanges(Checks checks) {
        checks.test("19: no such owner is INVALID_ARGUMENT, whatever is asked", c -> {
            RoofOrdinances x = new RoofOrdinances();
            for (int owner : Edges.noOwners()) {
                for (int what = 0; what < 9; what++) {
                    c.due("ownerOf(" + owner + ", " + what + ")", x.ownerOf(owner, what), INVALID);
                }
            }
        });
        checks.test("19: no such property is INVALID_ARGUMENT, of whatever owner", c -> {
            RoofOrdinances x = new RoofOrdinances();
            for (int what : Edges.outside(0, 8)) {
                for (int owner = 0; owner < 4; owner++) {
                    c.due("ownerOf(" + owner + ", " + what + ")", x.ownerOf(owner, what), INVALID);
                }
            }
        });
        checks.test("19: the least and the greatest weight and keys", c -> {
            RoofOrdinances x = new RoofOrdinances();
            x.owner(0, 1, 0, false);
            x.owner(3, 9, 65535, true);
            c.due("ownerOf(0, 0)", x.ownerOf(0, 0), 1);
            c.due("ownerOf(0, 1)", x.ownerOf(0, 1), 0);
            c.due("ownerOf(0, 2)", x.ownerOf(0, 2), 0);
            c.due("ownerOf(3, 0)", x.ownerOf(3, 0), 9);
            c.due("ownerOf(3, 1)", x.ownerOf(3, 1), 65535);
            c.due("ownerOf(3, 2)", x.ownerOf(3, 2), 1);
        });
    }

    private static void ownerLines(Checks checks) {
        checks.test("19: an owner has no lines, or all", c -> {
            RoofOrdinances x = new RoofOrdinances();
            for (int gangway : Edges.GANGWAYS) {
                x.hang(3, gangway);
            }
            c.due("ownerOf(3, 4)", x.ownerOf(3, 4), 24);
            c.due("ownerOf(3, 5)", x.ownerOf(3, 5), 24);
            c.due("ownerOf(0, 4)", x.ownerOf(0, 4), 0);
            c.due("ownerOf(0, 5)", x.ownerOf(0, 5), 0);
        });
        checks.test("19: a line with soot, or with spots, is no clean one of them", c -> {
            RoofOrdinances x = new RoofOrdinances();
            x.hang(0, 0);
            x.hang(0, 14);
            x.hang(0, 8);
            x.hang(1, 6);
            x.chimney(0);
            x.coop(15);
            x.day();
            c.due("ownerOf(0, 4)", x.ownerOf(0, 4), 3);
            c.due("ownerOf(0, 5)", x.ownerOf(0, 5), 1);
            c.due("ownerOf(1, 5)", x.ownerOf(1, 5), 1);
        });
        checks.test("19: a line that fell, or was taken down, is no longer the owner's", c -> {
            RoofOrdinances x = new RoofOrdinances();
            x.hang(2, 0);
            x.hang(2, 1);
            x.hang(2, 2);
            x.take(2, 0);
            x.bears(1, 0);
            c.due("ownerOf(2, 4)", x.ownerOf(2, 4), 1);
        });
    }

    private static void ownerCould(Checks checks) {
        checks.test("19: over how many gangways an owner could walk, from 0 to 4", c -> {
            RoofOrdinances x = new RoofOrdinances();
            c.due("in the corner", x.ownerOf(0, 6), 2);
            c.due("in the middle", x.ownerOf(1, 6), 4);
            x.bears(4, 0);
            c.due("one bears 0", x.ownerOf(1, 6), 3);
            x.bears(5, 2);
            c.due("one is too weak", x.ownerOf(1, 6), 2);
            x.hang(0, 17);
            c.due("another's line", x.ownerOf(1, 6), 1);
            x.owner(1, 3, 65535 & ~(1 << 9), false);
            c.due("no key", x.ownerOf(1, 6), 0);
            x.hang(2, 0);
            c.due("a line elsewhere", x.ownerOf(2, 6), 4);
        });
        checks.test("19: on each roof an owner could walk over all gangways of it, and over no other", c -> {
            int[] want = {2, 3, 3, 2, 3, 4, 4, 3, 3, 4, 4, 3, 2, 3, 3, 2};
            RoofOrdinances x = new RoofOrdinances();
            c.due("on the roof 0", x.ownerOf(0, 6), want[0]);
            for (int gangway : new int[] {0, 1, 2, 19, 6, 5, 4, 20, 8, 9, 10, 27, 14, 13, 12}) {
                x.walk(0, gangway);
                int roof = x.ownerOf(0, 3);
                c.due("on the roof " + roof, x.ownerOf(0, 6), want[roof]);
            }
            c.due("the last roof", x.ownerOf(0, 3), 12);
        });
        checks.test("19: an owner could walk over a gangway that bears the weight, and one's own line", c -> {
            RoofOrdinances x = new RoofOrdinances();
            x.owner(0, 5, 65535, false);
            x.hang(0, 0);
            c.due("ownerOf(0, 6)", x.ownerOf(0, 6), 2);
            x.owner(0, 6, 65535, false);
            c.due("ownerOf(0, 6)", x.ownerOf(0, 6), 0);
        });
        checks.test("19: over how many gangways an owner could hang a line, from 0 to 24", c -> {
            RoofOrdinances x = new RoofOrdinances();
            c.due("over all", x.ownerOf(0, 8), 24);
            x.owner(0, 3, 0, false);
            c.due("without keys", x.ownerOf(0, 8), 0);
            x.owner(0, 3, 1 << 14 | 1 << 15, false);
            c.due("with the keys to one gangway", x.ownerOf(0, 8), 1);
            c.due("the others could hang over all", x.ownerOf(3, 8), 24);
        });
        checks.test("19: each reason takes gangways away", c -> {
            RoofOrdinances x = new RoofOrdinances();
            x.bears(0, 0);
            c.due("reason 1", x.ownerOf(0, 8), 23);
            x.hang(0, 14);
            c.due("reason 2", x.ownerOf(0, 8), 22);
            x.owner(0, 3, 65535 & ~(1 << 12), false);
            c.due("reason 3 over 12 and 24", x.ownerOf(0, 8), 20);
            x.chimney(3);
            c.due("reason 4 over 2 and 19", x.ownerOf(0, 8), 18);
            x.coop(11);
            c.due("reason 5 over 6, 9, 10, 22, 23, 26 and 27", x.ownerOf(0, 8), 11);
        });
        checks.test("19: to tell it is not refused, and no walk", c -> {
            RoofOrdinances x = new RoofOrdinances();
            x.owner(0, 9, 0, false);
            x.ownerOf(0, 6);
            x.ownerOf(0, 8);
            c.due("count(13)", x.count(13), 0);
            c.due("ownerOf(0, 7)", x.ownerOf(0, 7), 0);
            c.due("ownerOf(0, 3)", x.ownerOf(0, 3), 0);
        });
    }

    private static void ownerWalks(Checks checks) {
        checks.test("19: walks so far, the refused ones and the errors not among them", c -> {
            RoofOrdinances x = new RoofOrdinances();
            x.walk(0, 0);
            x.walk(0, 16);
            x.bears(1, 0);
            x.walk(0, 1);
            x.walk(0, 0);
            c.due("ownerOf(0, 7)", x.ownerOf(0, 7), 2);
            c.due("ownerOf(1, 7)", x.ownerOf(1, 7), 0);
        });
        checks.test("19: walks of texts are walks", c -> {
            RoofOrdinances x = new RoofOrdinances();
            Texts.run(x, "w0:0,w0:0,w1:4,w0:27,w0:0");
            c.due("ownerOf(0, 7)", x.ownerOf(0, 7), 2);
            c.due("ownerOf(1, 7)", x.ownerOf(1, 7), 1);
        });
    }

    private static void whyNotHang(Checks checks) {
        checks.test("20: no such owner is INVALID_ARGUMENT", c -> {
            RoofOrdinances x = new RoofOrdinances();
            x.bears(0, 0);
            for (int owner : Edges.noOwners()) {
                c.due("whyNotHang(" + owner + ", 0)", x.whyNotHang(owner, 0), INVALID);
            }
        });
        checks.test("20: a number that is no gangway is INVALID_ARGUMENT", c -> {
            RoofOrdinances x = new RoofOrdinances();
            for (int gangway : Edges.noGangways()) {
                c.due("whyNotHang(3, " + gangway + ")", x.whyNotHang(3, gangway), INVALID);
            }
        });
        checks.test("20: 0 for each owner over each gangway at first", c -> {
            RoofOrdinances x = new RoofOrdinances();
            for (int owner = 0; owner < 4; owner++) {
                for (int gangway : Edges.GANGWAYS) {
                    c.due("whyNotHang(" + owner + ", " + gangway + ")", x.whyNotHang(owner, gangway), 0);
                }
            }
        });
        checks.test("20: it tells what hang answers, for each owner over each gangway", c -> {
            for (int owner = 0; owner < 4; owner++) {
                for (int gangway : Edges.GANGWAYS) {
                    RoofOrdinances x = Portraits.lively();
                    int reason = x.whyNotHang(owner, gangway);
                    int lines = x.count(5);
                    c.due("hang(" + owner + ", " + gangway + ")", x.hang(owner, gangway),
                            reason == 0 ? 11 + lines : reason);
                }
            }
        });
    }

    private static void countRanges(Checks checks) {
        checks.test("23: no such number is INVALID_ARGUMENT", c -> {
            RoofOrdinances x = new RoofOrdinances();
            for (int what : Edges.outside(0, 17)) {
                c.due("count(" + what + ")", x.count(what), INVALID);
            }
        });
        checks.test("23: the length of the pad, from 0 to 60", c -> {
            RoofOrdinances x = new RoofOrdinances();
            for (int length = 0; length <= 60; length++) {
                c.due("count(16)", x.count(16), length);
                x.append('x');
            }
            c.due("count(16)", x.count(16), 60);
        });
        checks.test("23: the states in the history, from 0 to 4", c -> {
            RoofOrdinances x = new RoofOrdinances();
            for (int changes = 0; changes < 10; changes++) {
                c.due("count(17)", x.count(17), Math.min(changes, 4));
                x.day();
            }
        });
    }

    private static void countNow(Checks checks) {
        checks.test("23: chimneys, roofs in smoke and coops are three numbers", c -> {
            RoofOrdinances x = new RoofOrdinances();
            x.chimney(0);
            x.chimney(4);
            x.coop(1);
            c.due("chimneys", x.count(2), 2);
            c.due("roofs in smoke", x.count(3), 6);
            c.due("coops", x.count(4), 1);
        });
        checks.test("23: a line with both roofs in smoke is one line with a roof in smoke", c -> {
            RoofOrdinances x = new RoofOrdinances();
            x.hang(0, 0);
            x.hang(0, 2);
            x.hang(0, 14);
            x.chimney(0);
            c.due("count(9)", x.count(9), 2);
        });
        checks.test("23: a gangway without a line is no line with a roof in smoke", c -> {
            RoofOrdinances x = new RoofOrdinances();
            x.chimney(0);
            c.due("count(9)", x.count(9), 0);
        });
        checks.test("23: soot and spots of all lines, not of those that are gone", c -> {
            RoofOrdinances x = new RoofOrdinances();
            x.hang(0, 0);
            x.hang(1, 1);
            x.hang(2, 2);
            x.chimney(0);
            x.coop(1);
            x.day();
            c.due("soot", x.count(7), 5);
            c.due("spots", x.count(8), 2);
            x.take(0, 0);
            c.due("soot", x.count(7), 3);
            c.due("spots", x.count(8), 1);
            x.bears(1, 0);
            c.due("soot", x.count(7), 1);
            c.due("spots", x.count(8), 0);
        });
        checks.test("23: clean lines have neither soot nor spots", c -> {
            RoofOrdinances x = new RoofOrdinances();
            x.hang(0, 0);
            x.hang(0, 14);
            x.hang(0, 8);
            x.chimney(0);
            x.coop(15);
            c.due("before the day", x.count(6), 3);
            x.day();
            c.due("behind the day", x.count(6), 1);
        });
    }

    private static void countSoFar(Checks checks) {
        checks.test("23: lines hung so far, those that are gone, too", c -> {
            RoofOrdinances x = new RoofOrdinances();
            for (int time = 1; time <= 30; time++) {
                x.hang(0, 0);
                x.take(0, 0);
                c.due("count(10)", x.count(10), time);
                c.due("count(11)", x.count(11), time);
            }
            c.due("count(5)", x.count(5), 0);
        });
        checks.test("23: a line that fell was not taken down", c -> {
            RoofOrdinances x = new RoofOrdinances();
            x.hang(0, 0);
            x.bears(0, 0);
            c.due("count(11)", x.count(11), 0);
            c.due("count(12)", x.count(12), 1);
        });
        checks.test("23: lines of texts are hung and taken down, too", c -> {
            RoofOrdinances x = new RoofOrdinances();
            Texts.run(x, "h0:0,t0:0,h1:0,h2:0");
            c.due("count(10)", x.count(10), 2);
            c.due("count(11)", x.count(11), 1);
            c.due("count(13)", x.count(13), 1);
        });
    }

    private static void countRefused(Checks checks) {
        checks.test("23: refused orders are those of hang, take and walk, and of texts", c -> {
            RoofOrdinances x = new RoofOrdinances();
            x.bears(0, 0);
            x.hang(0, 0);
            c.due("hang", x.count(13), 1);
            x.take(0, 0);
            c.due("take", x.count(13), 2);
            x.walk(0, 0);
            c.due("walk", x.count(13), 3);
            Texts.run(x, "d,h0:0,d");
            c.due("run of a line", x.count(13), 4);
            Texts.run(x, "t0:0");
            c.due("run of a taking", x.count(13), 5);
            Texts.run(x, "w0:0");
            c.due("run of a walk", x.count(13), 6);
        });
        checks.test("23: errors and looks are not refused orders", c -> {
            RoofOrdinances x = new RoofOrdinances();
            x.bears(0, 0);
            x.hang(4, 0);
            x.take(0, 3);
            x.walk(0, 27);
            x.whyNotHang(0, 0);
            x.steps(0, 1);
            x.bestPlace(0);
            Texts.run(x, "w0:27");
            Texts.run(x, "x");
            x.append(10);
            x.restore();
            c.due("count(13)", x.count(13), 0);
        });
    }

    private static void cleanness(Checks checks) {
        checks.test("24: 1.0 without lines, at first and again", c -> {
            RoofOrdinances x = new RoofOrdinances();
            c.dueDouble("cleanness()", x.cleanness(), 1.0);
            x.hang(0, 0);
            x.coop(0);
            x.day();
            x.take(0, 0);
            c.dueDouble("cleanness()", x.cleanness(), 1.0);
        });
        checks.test("24: 1.0, if all are clean", c -> {
            RoofOrdinances x = new RoofOrdinances();
            x.hang(0, 0);
            x.hang(0, 1);
            c.dueDouble("cleanness()", x.cleanness(), 1.0);
        });
        checks.test("24: 0.0, if none is clean", c -> {
            RoofOrdinances x = new RoofOrdinances();
            x.hang(0, 0);
            x.coop(0);
            x.day();
            c.dueDouble("cleanness()", x.cleanness(), 0.0);
        });
        checks.test("24: the clean lines divided by all, as a double, for each number of them", c -> {
            RoofOrdinances x = new RoofOrdinances();
            x.reach(0);
            for (int gangway : Edges.GANGWAYS) {
                x.hang(0, gangway);
            }
            for (int roof = 0; roof < 16; roof++) {
                x.chimney(roof);
                x.day();
                c.dueDouble("chimneys on 0 to " + roof, x.cleanness(), cleanLeft(roof) / 24.0);
            }
        });
    }

    // Lines none of whose roofs is one of 0 to the roof.
    private static int cleanLeft(int roof) {
        int clean = 0;
        for (int gangway : Edges.GANGWAYS) {
            clean += Edges.lesser(gangway) > roof ? 1 : 0;
        }
        return clean;
    }
}
