/** The sentences of promises 8 to 11, and of their terms, that name a boundary case: a test for each. */
final class LineEdgeTests {
    private static final int INVALID = Edges.INVALID;

    private LineEdgeTests() {
    }

    static void all(Checks checks) {
        hangRanges(checks);
        hangAnswers(checks);
        hangReasonsOneToThree(checks);
        hangReasonSmoke(checks);
        hangReasonCoop(checks);
        hangFirstReason(checks);
        takeRanges(checks);
        takeAnswers(checks);
        walkRanges(checks);
        walkErrors(checks);
        walkReasons(checks);
        walkFirstReason(checks);
        daySoot(checks);
        daySpots(checks);
        dayCounts(checks);
        dayWind(checks);
    }

    private static void hangRanges(Checks checks) {
        checks.test("8: no such owner is INVALID_ARGUMENT", c -> {
            RoofOrdinances x = new RoofOrdinances();
            for (int owner : Edges.noOwners()) {
                c.due("hang(" + owner + ", 0)", x.hang(owner, 0), INVALID);
            }
            c.due("count(5)", x.count(5), 0);
        });
        checks.test("8: a number that is no gangway is INVALID_ARGUMENT", c -> {
            RoofOrdinances x = new RoofOrdinances();
            for (int gangway : Edges.noGangways()) {
                c.due("hang(0, " + gangway + ")", x.hang(0, gangway), INVALID);
            }
            c.due("count(5)", x.count(5), 0);
        });
        checks.test("8: an error is looked at ahead of reasons", c -> {
            RoofOrdinances x = new RoofOrdinances();
            x.hang(0, 0);
            x.bears(1, 0);
            c.due("hang(4, 0)", x.hang(4, 0), INVALID);
            c.due("hang(-1, 1)", x.hang(-1, 1), INVALID);
            c.due("count(13)", x.count(13), 0);
        });
        checks.test("8: the least owner, and the greatest", c -> {
            RoofOrdinances x = new RoofOrdinances();
            c.due("hang(0, 0)", x.hang(0, 0), 11);
            c.due("hang(3, 27)", x.hang(3, 27), 12);
            c.due("gangway(0, 3)", x.gangway(0, 3), 0);
            c.due("gangway(27, 3)", x.gangway(27, 3), 3);
        });
    }

    private static void hangAnswers(Checks checks) {
        checks.test("8: lines can hang over all gangways", c -> {
            RoofOrdinances x = new RoofOrdinances();
            int lines = 0;
            for (int gangway : Edges.GANGWAYS) {
                lines++;
                c.due("hang(" + lines % 4 + ", " + gangway + ")", x.hang(lines % 4, gangway), 10 + lines);
            }
            c.due("the last answer", 10 + lines, 34);
            for (int gangway : Edges.GANGWAYS) {
                c.due("hang(0, " + gangway + ")", x.hang(0, gangway), 2);
            }
        });
        checks.test("8: a line that is hung has no soot and no spots", c -> {
            RoofOrdinances x = new RoofOrdinances();
            x.hang(0, 5);
            x.chimney(5);
            x.coop(6);
            x.day();
            x.take(0, 5);
            x.chimney(5);
            x.coop(6);
            x.hang(1, 5);
            c.due("gangway(5, 4)", x.gangway(5, 4), 0);
            c.due("gangway(5, 5)", x.gangway(5, 5), 0);
            c.due("count(6)", x.count(6), 1);
        });
        checks.test("8: a refused line is counted as refused, and not as hung", c -> {
            RoofOrdinances x = new RoofOrdinances();
            x.bears(0, 0);
            c.due("hang(0, 0)", x.hang(0, 0), 1);
            c.due("count(5)", x.count(5), 0);
            c.due("count(10)", x.count(10), 0);
            c.due("count(13)", x.count(13), 1);
        });
        checks.test("8: a refused line is a change", c -> {
            RoofOrdinances x = new RoofOrdinances();
            x.hang(0, 0);
            c.due("hang(0, 0)", x.hang(0, 0), 2);
            c.due("count(17)", x.count(17), 2);
            c.due("undo()", x.undo(), 1);
            c.due("count(13)", x.count(13), 0);
            c.due("count(5)", x.count(5), 1);
        });
    }

    private static void hangReasonsOneToThree(Checks checks) {
        checks.test("8: reason 1 over a gangway that bears 0, none over one that bears 1", c -> {
            RoofOrdinances x = new RoofOrdinances();
            x.bears(22, 0);
            c.due("hang(0, 22)", x.hang(0, 22), 1);
            x.bears(22, 1);
            c.due("hang(0, 22)", x.hang(0, 22), 11);
        });
        checks.test("8: a heavy owner can hang a line over a weak gangway", c -> {
            RoofOrdinances x = new RoofOrdinances();
            x.owner(0, 9, 65535, false);
            x.bears(0, 1);
            c.due("hang(0, 0)", x.hang(0, 0), 11);
        });
        checks.test("8: reason 2, if another's line hangs there, or the owner's own", c -> {
            RoofOrdinances x = new RoofOrdinances();
            x.hang(1, 22);
            c.due("hang(0, 22)", x.hang(0, 22), 2);
            c.due("hang(1, 22)", x.hang(1, 22), 2);
            c.due("gangway(22, 3)", x.gangway(22, 3), 1);
            x.take(1, 22);
            c.due("hang(0, 22)", x.hang(0, 22), 11);
        });
        checks.test("8: reason 3 without the keys, with that to one roof, and with that to the other", c -> {
            int[] keys = {0, 1 << 6, 1 << 10, Edges.ALL_KEYS & ~(1 << 6), Edges.ALL_KEYS & ~(1 << 10)};
            RoofOrdinances x = new RoofOrdinances();
            for (int set : keys) {
                x.owner(2, 3, set, false);
                c.due("hang(2, 22) with the keys " + set, x.hang(2, 22), 3);
            }
            x.owner(2, 3, 1 << 6 | 1 << 10, false);
            c.due("hang(2, 22)", x.hang(2, 22), 11);
        });
        checks.test("8: an owner need not be near the gangway", c -> {
            RoofOrdinances x = new RoofOrdinances();
            c.due("hang(0, 27)", x.hang(0, 27), 11);
            c.due("ownerOf(0, 3)", x.ownerOf(0, 3), 0);
        });
    }

    private static void hangReasonSmoke(Checks checks) {
        checks.test("8: reason 4, if the lesser roof is in smoke, the greater one, or both", c -> {
            for (int roof : new int[] {8, 12}) {
                RoofOrdinances x = new RoofOrdinances();
                x.reach(0);
                x.chimney(roof);
                c.due("hang(0, 24), smoke on " + roof, x.hang(0, 24), 4);
            }
            RoofOrdinances x = new RoofOrdinances();
            x.wind(1);
            x.chimney(8);
            c.due("hang(0, 24), smoke on both", x.hang(0, 24), 4);
        });
        checks.test("8: reason 4 as far as smoke reaches, and no further", c -> {
            RoofOrdinances x = new RoofOrdinances();
            x.reach(1);
            x.chimney(0);
            c.due("hang(0, 1), from the roof at REACH", x.hang(0, 1), 4);
            c.due("hang(0, 2), behind it", x.hang(0, 2), 11);
        });
        checks.test("8: smoke at the end of a row is none at the beginning of the next", c -> {
            RoofOrdinances x = new RoofOrdinances();
            x.chimney(3);
            c.due("hang(0, 4)", x.hang(0, 4), 11);
            c.due("hang(0, 20)", x.hang(0, 20), 12);
            c.due("hang(0, 19)", x.hang(0, 19), 4);
        });
        checks.test("8: smoke that comes later leaves the line", c -> {
            RoofOrdinances x = new RoofOrdinances();
            x.hang(0, 1);
            x.chimney(1);
            c.due("count(5)", x.count(5), 1);
            c.due("count(9)", x.count(9), 1);
        });
    }

    private static void hangReasonCoop(Checks checks) {
        checks.test("8: reason 5 by a coop on a roof of each gangway, or on a neighbour, and by no other", c -> {
            for (int roof = 0; roof < 16; roof++) {
                RoofOrdinances x = new RoofOrdinances();
                x.coop(roof);
                for (int gangway : Edges.GANGWAYS) {
                    boolean isNear = Edges.distance(roof, Edges.lesser(gangway)) <= 1
                            || Edges.distance(roof, Edges.greater(gangway)) <= 1;
                    c.due("coop on " + roof + ", whyNotHang(0, " + gangway + ")",
                            x.whyNotHang(0, gangway), isNear ? 5 : 0);
                }
            }
        });
        checks.test("8: a neighbour is one whatever the gangway between bears", c -> {
            RoofOrdinances x = new RoofOrdinances();
            x.coop(10);
            x.bears(22, 0);
            c.due("hang(0, 6)", x.hang(0, 6), 5);
        });
        checks.test("8: with a truce there is no reason 5", c -> {
            RoofOrdinances x = new RoofOrdinances();
            x.coop(5);
            x.coop(6);
            x.owner(2, 3, 65535, true);
            c.due("hang(2, 5)", x.hang(2, 5), 11);
            c.due("hang(2, 1)", x.hang(2, 1), 12);
        });
        checks.test("8: another owner's truce doesn't help", c -> {
            RoofOrdinances x = new RoofOrdinances();
            x.coop(5);
            x.owner(2, 3, 65535, true);
            for (int owner : new int[] {0, 1, 3}) {
                c.due("hang(" + owner + ", 5)", x.hang(owner, 5), 5);
            }
        });
    }

    // The gangway 5 from the roof 5 to the roof 6, with all that the reasons ask for.
    private static int answerWith(int... reasons) {
        RoofOrdinances x = new RoofOrdinances();
        for (int reason : reasons) {
            switch (reason) {
                case 1:
                    x.bears(5, 0);
                    break;
                case 2:
                    x.hang(1, 5);
                    break;
                case 3:
                    x.owner(0, 3, Edges.ALL_KEYS & ~(1 << 6), false);
                    break;
                case 4:
                    x.chimney(5);
                    break;
                default:
                    x.coop(2);
                    break;
            }
        }
        return x.hang(0, 5);
    }

    // A line that hangs falls, if the gangway bears 0: the reasons 1 and 2 are never so together.
    private static void hangFirstReason(Checks checks) {
        for (int reason = 1; reason <= 5; reason++) {
            int alone = reason;
            checks.test("8: reason " + reason + " alone", c -> c.due("hang(0, 5)", answerWith(alone), alone));
            for (int later = reason == 1 ? 3 : reason + 1; later <= 5; later++) {
                int other = later;
                checks.test("8: reason " + reason + " ahead of reason " + later,
                        c -> c.due("hang(0, 5)", answerWith(alone, other), alone));
            }
        }
        checks.test("8: no reason", c -> c.due("hang(0, 5)", answerWith(), 11));
        checks.test("8: all later reasons behind 1", c -> c.due("hang(0, 5)", answerWith(1, 3, 4, 5), 1));
        checks.test("8: all later reasons behind 2", c -> c.due("hang(0, 5)", answerWith(2, 3, 4, 5), 2));
    }

    private static void takeRanges(Checks checks) {
        checks.test("9: no such owner is INVALID_ARGUMENT", c -> {
            RoofOrdinances x = new RoofOrdinances();
            x.hang(0, 0);
            for (int owner : Edges.noOwners()) {
                c.due("take(" + owner + ", 0)", x.take(owner, 0), INVALID);
            }
            c.due("count(5)", x.count(5), 1);
        });
        checks.test("9: a number that is no gangway is INVALID_ARGUMENT", c -> {
            RoofOrdinances x = new RoofOrdinances();
            for (int gangway : Edges.noGangways()) {
                c.due("take(0, " + gangway + ")", x.take(0, gangway), INVALID);
            }
        });
        checks.test("9: an error is looked at ahead of reasons", c -> {
            RoofOrdinances x = new RoofOrdinances();
            c.due("take(4, 0)", x.take(4, 0), INVALID);
            c.due("count(13)", x.count(13), 0);
        });
        checks.test("9: reason 6, if none hangs there, has fallen, or has been taken down", c -> {
            RoofOrdinances x = new RoofOrdinances();
            c.due("take(0, 0)", x.take(0, 0), 6);
            x.hang(0, 0);
            x.bears(0, 0);
            c.due("take(0, 0)", x.take(0, 0), 6);
            x.hang(0, 1);
            x.take(0, 1);
            c.due("take(0, 1)", x.take(0, 1), 6);
            c.due("count(13)", x.count(13), 3);
            c.due("count(11)", x.count(11), 1);
        });
        checks.test("9: reason 7, if it is another owner's, and it stays", c -> {
            RoofOrdinances x = new RoofOrdinances();
            x.hang(2, 27);
            for (int owner : new int[] {0, 1, 3}) {
                c.due("take(" + owner + ", 27)", x.take(owner, 27), 7);
            }
            c.due("gangway(27, 3)", x.gangway(27, 3), 2);
            c.due("count(13)", x.count(13), 3);
            c.due("count(11)", x.count(11), 0);
        });
        checks.test("9: a refused taking is a change", c -> {
            RoofOrdinances x = new RoofOrdinances();
            c.due("take(0, 0)", x.take(0, 0), 6);
            c.due("count(17)", x.count(17), 1);
            c.due("undo()", x.undo(), 0);
            c.due("count(13)", x.count(13), 0);
        });
    }

    private static void takeAnswers(Checks checks) {
        checks.test("9: 10 for a clean line", c -> {
            RoofOrdinances x = new RoofOrdinances();
            x.hang(0, 27);
            c.due("take(0, 27)", x.take(0, 27), 10);
            c.due("count(5)", x.count(5), 0);
        });
        checks.test("9: 10 and its soot", c -> {
            RoofOrdinances x = new RoofOrdinances();
            x.hang(0, 0);
            x.chimney(0);
            x.day();
            c.due("take(0, 0)", x.take(0, 0), 12);
        });
        checks.test("9: 10 and its spots", c -> {
            RoofOrdinances x = new RoofOrdinances();
            x.hang(0, 0);
            x.coop(1);
            x.day();
            c.due("take(0, 0)", x.take(0, 0), 11);
        });
        checks.test("9: 10, its soot and its spots together", c -> {
            RoofOrdinances x = new RoofOrdinances();
            x.hang(0, 0);
            x.chimney(0);
            x.coop(1);
            x.day();
            c.due("take(0, 0)", x.take(0, 0), 13);
        });
        checks.test("9: the soot and spots of this line, not of another", c -> {
            RoofOrdinances x = new RoofOrdinances();
            x.hang(0, 0);
            x.hang(0, 27);
            x.chimney(0);
            x.coop(11);
            x.day();
            c.due("take(0, 27)", x.take(0, 27), 11);
            c.due("take(0, 0)", x.take(0, 0), 12);
        });
        checks.test("9: the soot and spots of the other lines stay", c -> {
            RoofOrdinances x = new RoofOrdinances();
            x.hang(0, 0);
            x.hang(0, 16);
            x.chimney(0);
            x.coop(0);
            x.day();
            c.due("take(0, 0)", x.take(0, 0), 13);
            c.due("gangway(16, 4)", x.gangway(16, 4), 1);
            c.due("gangway(16, 5)", x.gangway(16, 5), 1);
        });
        checks.test("9: keys, smoke, coops, weight and truce are no reasons", c -> {
            RoofOrdinances x = new RoofOrdinances();
            x.hang(0, 5);
            x.owner(0, 9, 0, true);
            x.bears(5, 1);
            x.chimney(5);
            x.coop(5);
            c.due("take(0, 5)", x.take(0, 5), 10);
        });
    }

    private static void walkRanges(Checks checks) {
        checks.test("10: no such owner is INVALID_ARGUMENT", c -> {
            RoofOrdinances x = new RoofOrdinances();
            for (int owner : Edges.noOwners()) {
                c.due("walk(" + owner + ", 0)", x.walk(owner, 0), INVALID);
            }
        });
        checks.test("10: a number that is no gangway is INVALID_ARGUMENT", c -> {
            RoofOrdinances x = new RoofOrdinances();
            for (int owner = 0; owner < 4; owner++) {
                for (int gangway : Edges.noGangways()) {
                    c.due("walk(" + owner + ", " + gangway + ")", x.walk(owner, gangway), INVALID);
                }
            }
        });
        checks.test("10: also the number that a gangway of the owner's roof would have", c -> {
            RoofOrdinances x = new RoofOrdinances();
            c.due("walk(3, 15), from the roof 15", x.walk(3, 15), INVALID);
            c.due("walk(3, 31), from the roof 15", x.walk(3, 31), INVALID);
            Edges.walk(x, 0, 0, 1, 2);
            c.due("walk(0, 3), from the roof 3", x.walk(0, 3), INVALID);
            c.due("ownerOf(0, 3)", x.ownerOf(0, 3), 3);
            Edges.walk(x, 2, 26, 13, 12);
            c.due("walk(2, 28), from the roof 12", x.walk(2, 28), INVALID);
            c.due("walk(2, 11), from the roof 12", x.walk(2, 11), INVALID);
            c.due("ownerOf(2, 3)", x.ownerOf(2, 3), 12);
        });
        checks.test("10: each owner walks over each gangway of the roof, and over no other", c -> {
            for (int owner = 0; owner < 4; owner++) {
                for (int gangway : Edges.GANGWAYS) {
                    RoofOrdinances x = new RoofOrdinances();
                    boolean isHere = Edges.leadsFrom(gangway, 5 * owner);
                    int there = Edges.otherEnd(gangway, 5 * owner);
                    c.due("walk(" + owner + ", " + gangway + ")", x.walk(owner, gangway),
                            isHere ? 10 + there : Edges.NOT_POSSIBLE);
                    c.due("ownerOf(" + owner + ", 3)", x.ownerOf(owner, 3), isHere ? there : 5 * owner);
                    c.due("ownerOf(" + owner + ", 7)", x.ownerOf(owner, 7), isHere ? 1 : 0);
                }
            }
        });
        checks.test("10: 10 for the roof 0, 25 for the roof 15", c -> {
            RoofOrdinances x = new RoofOrdinances();
            x.walk(0, 0);
            c.due("walk(0, 0)", x.walk(0, 0), 10);
            x.walk(3, 27);
            c.due("walk(3, 27)", x.walk(3, 27), 25);
        });
    }

    private static void walkErrors(Checks checks) {
        checks.test("10: INVALID_ARGUMENT ahead of NOT_POSSIBLE", c -> {
            RoofOrdinances x = new RoofOrdinances();
            c.due("walk(4, 27)", x.walk(4, 27), INVALID);
            c.due("walk(0, 7)", x.walk(0, 7), INVALID);
        });
        checks.test("10: NOT_POSSIBLE ahead of each reason", c -> {
            RoofOrdinances x = new RoofOrdinances();
            x.bears(9, 0);
            c.due("walk(0, 9), that is none", x.walk(0, 9), Edges.NOT_POSSIBLE);
            x.owner(0, 9, 0, false);
            c.due("walk(0, 5), too weak, and no key", x.walk(0, 5), Edges.NOT_POSSIBLE);
            x.hang(1, 21);
            c.due("walk(0, 21), a line", x.walk(0, 21), Edges.NOT_POSSIBLE);
            c.due("count(13)", x.count(13), 0);
        });
        checks.test("10: NOT_POSSIBLE is no change, and not refused", c -> {
            RoofOrdinances x = new RoofOrdinances();
            c.due("walk(0, 1)", x.walk(0, 1), Edges.NOT_POSSIBLE);
            c.due("count(13)", x.count(13), 0);
            c.due("count(17)", x.count(17), 0);
        });
        checks.test("10: over a gangway that has been walked over one can walk back, not on", c -> {
            RoofOrdinances x = new RoofOrdinances();
            c.due("walk(0, 0)", x.walk(0, 0), 11);
            c.due("walk(0, 16)", x.walk(0, 16), Edges.NOT_POSSIBLE);
            c.due("walk(0, 0)", x.walk(0, 0), 10);
        });
    }

    private static void walkReasons(Checks checks) {
        checks.test("10: reason 1 over a gangway that bears 0", c -> {
            RoofOrdinances x = new RoofOrdinances();
            x.bears(0, 0);
            c.due("walk(0, 0)", x.walk(0, 0), 1);
        });
        checks.test("10: reason 8, if it bears 1 less than the owner weighs, none, if as much", c -> {
            for (int weight = 1; weight <= 9; weight++) {
                RoofOrdinances x = new RoofOrdinances();
                x.owner(0, weight, 65535, false);
                x.bears(0, weight - 1);
                c.due("weight " + weight + ", bears 1 less", x.walk(0, 0), weight == 1 ? 1 : 8);
                x.bears(0, weight);
                c.due("weight " + weight + ", bears as much", x.walk(0, 0), 11);
            }
        });
        checks.test("10: reason 9 over another's line, none over one's own", c -> {
            for (int hanger = 0; hanger < 4; hanger++) {
                RoofOrdinances x = new RoofOrdinances();
                x.hang(hanger, 0);
                c.due("line of " + hanger, x.walk(0, 0), hanger == 0 ? 11 : 9);
            }
        });
        checks.test("10: reason 3 without the key to the other roof, whichever way", c -> {
            RoofOrdinances x = new RoofOrdinances();
            x.owner(0, 3, Edges.ALL_KEYS & ~2, false);
            c.due("walk(0, 0)", x.walk(0, 0), 3);
            x.owner(3, 3, Edges.ALL_KEYS & ~(1 << 11), false);
            c.due("walk(3, 27)", x.walk(3, 27), 3);
        });
        checks.test("10: no key is needed to the roof where the owner is", c -> {
            RoofOrdinances x = new RoofOrdinances();
            x.owner(0, 3, 2, false);
            c.due("walk(0, 0)", x.walk(0, 0), 11);
            x.owner(3, 3, 1 << 11, false);
            c.due("walk(3, 27)", x.walk(3, 27), 21);
        });
        checks.test("10: smoke, coops and other owners are no reasons", c -> {
            RoofOrdinances x = new RoofOrdinances();
            x.chimney(5);
            x.coop(5);
            x.walk(0, 0);
            c.due("walk(0, 17), to the owner 1", x.walk(0, 17), 15);
            c.due("roof(5, 4)", x.roof(5, 4), 3);
        });
        checks.test("10: a refused walk is counted as refused, is no walk, and is a change", c -> {
            RoofOrdinances x = new RoofOrdinances();
            x.bears(0, 2);
            c.due("walk(0, 0)", x.walk(0, 0), 8);
            c.due("ownerOf(0, 3)", x.ownerOf(0, 3), 0);
            c.due("ownerOf(0, 7)", x.ownerOf(0, 7), 0);
            c.due("count(13)", x.count(13), 1);
            c.due("count(17)", x.count(17), 2);
            c.due("undo()", x.undo(), 1);
            c.due("count(13)", x.count(13), 0);
        });
    }

    // The owner 0 on the roof 0 walks over the gangway 16 to the roof 4.
    private static int walkWith(int... reasons) {
        RoofOrdinances x = new RoofOrdinances();
        int weight = 3;
        int keys = Edges.ALL_KEYS;
        for (int reason : reasons) {
            switch (reason) {
                case 1:
                    x.bears(16, 0);
                    break;
                case 8:
                    weight = 6;
                    break;
                case 9:
                    x.hang(3, 16);
                    break;
                default:
                    keys = 1;
                    break;
            }
        }
        x.owner(0, weight, keys, false);
        return x.walk(0, 16);
    }

    // A line falls with its gangway, so the reasons 1 and 9 are never so together.
    private static void walkFirstReason(Checks checks) {
        int[][] rows = {{1}, {8}, {9}, {3}, {1, 8}, {1, 3}, {8, 9}, {8, 3}, {9, 3}, {1, 8, 3}, {8, 9, 3}};
        for (int[] row : rows) {
            StringBuilder name = new StringBuilder("10: of the reasons");
            for (int reason : row) {
                name.append(' ').append(reason);
            }
            checks.test(name.append(" the first one").toString(), c -> c.due("walk(0, 16)", walkWith(row), row[0]));
        }
        checks.test("10: none of the reasons", c -> c.due("walk(0, 16)", walkWith(), 14));
    }

    private static void daySoot(Checks checks) {
        checks.test("11: no soot without smoke, 1 with one roof in it, 2 with both", c -> {
            RoofOrdinances x = new RoofOrdinances();
            x.hang(0, 0);
            x.hang(0, 2);
            x.hang(0, 14);
            x.chimney(0);
            x.day();
            c.due("both in smoke", x.gangway(0, 4), 2);
            c.due("one in smoke", x.gangway(2, 4), 1);
            c.due("none in smoke", x.gangway(14, 4), 0);
            c.due("no spots", x.count(8), 0);
        });
        checks.test("11: the greater roof's smoke alone is 1 soot", c -> {
            RoofOrdinances x = new RoofOrdinances();
            x.hang(0, 0);
            x.chimney(1);
            x.day();
            c.due("gangway(0, 4)", x.gangway(0, 4), 1);
        });
        checks.test("11: a roof in the smoke of several chimneys is one roof in smoke", c -> {
            RoofOrdinances x = new RoofOrdinances();
            x.hang(0, 2);
            x.chimney(0);
            x.chimney(1);
            x.day();
            c.due("gangway(2, 4)", x.gangway(2, 4), 2);
            RoofOrdinances y = new RoofOrdinances();
            y.hang(0, 18);
            y.chimney(0);
            y.chimney(1);
            y.chimney(2);
            y.day();
            c.due("gangway(18, 4)", y.gangway(18, 4), 1);
        });
        checks.test("11: a truce keeps no soot off", c -> {
            RoofOrdinances x = new RoofOrdinances();
            x.owner(0, 3, 65535, true);
            x.hang(0, 0);
            x.chimney(0);
            x.day();
            c.due("gangway(0, 4)", x.gangway(0, 4), 2);
        });
        checks.test("11: soot comes by the wind of before it turns", c -> {
            RoofOrdinances x = new RoofOrdinances();
            x.hang(0, 0);
            x.hang(0, 16);
            x.chimney(0);
            x.day();
            c.due("the wind has turned", x.count(1), 1);
            c.due("to the east of the chimney", x.gangway(0, 4), 2);
            c.due("to the south of the chimney", x.gangway(16, 4), 1);
            x.day();
            c.due("to the east of the chimney", x.gangway(0, 4), 3);
            c.due("to the south of the chimney", x.gangway(16, 4), 3);
        });
        checks.test("11: soot of many days is added up", c -> {
            RoofOrdinances x = new RoofOrdinances();
            x.reach(0);
            x.hang(0, 0);
            x.chimney(0);
            x.chimney(1);
            for (int day = 1; day <= 200; day++) {
                x.day();
                c.due("soot of day " + day, x.gangway(0, 4), 2 * day);
            }
            c.due("take(0, 0)", x.take(0, 0), 410);
        });
    }

    private static void daySpots(Checks checks) {
        checks.test("11: no spots without coops, 1 with one, 2 with two", c -> {
            RoofOrdinances x = new RoofOrdinances();
            x.hang(0, 0);
            x.hang(0, 1);
            x.hang(0, 2);
            x.coop(0);
            x.coop(1);
            x.day();
            c.due("two coops", x.gangway(0, 5), 2);
            c.due("one coop", x.gangway(1, 5), 1);
            c.due("none on its roofs, but one near", x.gangway(2, 5), 0);
            c.due("no soot", x.count(7), 0);
        });
        checks.test("11: a line whose owner has a truce gets no spots", c -> {
            RoofOrdinances x = new RoofOrdinances();
            x.owner(3, 3, 65535, true);
            x.coop(0);
            x.coop(1);
            x.hang(3, 0);
            c.due("day()", x.day(), 1);
            c.due("gangway(0, 5)", x.gangway(0, 5), 0);
        });
        checks.test("11: the truce of the line's owner counts, as it is on that day", c -> {
            RoofOrdinances x = new RoofOrdinances();
            x.hang(0, 0);
            x.coop(0);
            x.owner(1, 3, 65535, true);
            x.day();
            c.due("another's truce", x.gangway(0, 5), 1);
            x.owner(0, 3, 65535, true);
            x.day();
            c.due("a truce", x.gangway(0, 5), 1);
            x.owner(0, 3, 65535, false);
            x.day();
            c.due("the truce is broken", x.gangway(0, 5), 2);
        });
        checks.test("11: with and without a truce on the same day", c -> {
            RoofOrdinances x = new RoofOrdinances();
            x.hang(0, 0);
            x.hang(1, 27);
            x.hang(2, 14);
            x.coop(0);
            x.coop(15);
            x.owner(1, 3, 65535, true);
            c.due("day()", x.day(), 1);
            c.due("no truce", x.gangway(0, 5), 1);
            c.due("a truce", x.gangway(27, 5), 0);
            c.due("no truce", x.gangway(14, 5), 1);
        });
        checks.test("11: a line that is gone gets nothing", c -> {
            RoofOrdinances x = new RoofOrdinances();
            x.hang(0, 0);
            x.hang(0, 1);
            x.coop(1);
            x.take(0, 0);
            x.bears(1, 0);
            c.due("day()", x.day(), 0);
            c.due("count(8)", x.count(8), 0);
        });
    }

    private static void dayCounts(Checks checks) {
        checks.test("11: it answers the lines that are clean at the end of the day", c -> {
            RoofOrdinances x = new RoofOrdinances();
            c.due("without lines", x.day(), 0);
            x.hang(0, 0);
            x.hang(0, 14);
            x.hang(0, 8);
            c.due("all are clean", x.day(), 3);
            x.coop(0);
            c.due("spots alone", x.day(), 2);
            x.reach(0);
            x.chimney(15);
            c.due("soot alone", x.day(), 1);
            x.chimney(8);
            c.due("none is clean", x.day(), 0);
        });
        checks.test("11: a line with soot and spots is counted once as not clean", c -> {
            RoofOrdinances x = new RoofOrdinances();
            x.hang(0, 0);
            x.hang(0, 14);
            x.coop(0);
            x.chimney(0);
            c.due("day()", x.day(), 1);
        });
        checks.test("11: a line doesn't become clean again", c -> {
            RoofOrdinances x = new RoofOrdinances();
            x.hang(0, 0);
            x.coop(0);
            x.day();
            x.coop(0);
            c.due("day()", x.day(), 0);
        });
        checks.test("11: the number of the day becomes 1 more, with no end", c -> {
            RoofOrdinances x = new RoofOrdinances();
            for (int day = 1; day <= 250; day++) {
                x.day();
                c.due("count(0)", x.count(0), day);
            }
        });
        checks.test("11: a day is a change, also without lines", c -> {
            RoofOrdinances x = new RoofOrdinances();
            x.day();
            c.due("count(17)", x.count(17), 1);
        });
    }

    private static void dayWind(Checks checks) {
        checks.test("11: the lot of the first days, reckoned by hand", c -> {
            int[] lots = {2084, 9027, 2030, 6293, 1016, 9399, 8642, 9945, 8508};
            int[] winds = {1, 1, 1, 1, 2, 2, 2, 2, 3};
            RoofOrdinances x = new RoofOrdinances();
            for (int day = 0; day < lots.length; day++) {
                x.day();
                c.due("lot of day " + (day + 1), x.count(15), lots[day]);
                c.due("wind of day " + (day + 1), x.count(1), winds[day]);
            }
        });
        checks.test("11: the new lot turns the wind, not the one of before", c -> {
            RoofOrdinances x = new RoofOrdinances();
            x.day();
            c.due("lot 1 becomes 2084", x.count(1), 1);
            x.day();
            c.due("lot 2084 becomes 9027", x.count(1), 1);
        });
        checks.test("11: the wind turns from each direction to the next, from the north to the east", c -> {
            for (int to = 0; to < 4; to++) {
                RoofOrdinances x = new RoofOrdinances();
                x.wind(to);
                x.day();
                c.due("from " + to, x.count(1), to == 3 ? 0 : to + 1);
            }
        });
        checks.test("11: the wind goes round in 13 days", c -> {
            RoofOrdinances x = new RoofOrdinances();
            for (int day = 1; day <= 12; day++) {
                x.day();
            }
            c.due("on the day 12", x.count(1), 3);
            x.day();
            c.due("on the day 13", x.count(1), 0);
        });
        checks.test("11: the lot stays from 0 to 9999", c -> {
            RoofOrdinances x = new RoofOrdinances();
            for (int day = 1; day <= 250; day++) {
                x.day();
                int lot = x.count(15);
                c.due("lot of day " + day + ": " + lot, lot >= 0 && lot < 10000 ? 1 : 0, 1);
            }
        });
    }
}
