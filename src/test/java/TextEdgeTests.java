/** The sentences of promises 12 to 16, and of "Texts", that name a boundary case: a test for each. */
final class TextEdgeTests {
    private static final int INVALID = Edges.INVALID;
    private static final int NOT_POSSIBLE = Edges.NOT_POSSIBLE;
    private static final int NOT_FOUND = Edges.NOT_FOUND;

    private TextEdgeTests() {
    }

    static void all(Checks checks) {
        append(checks);
        clear(checks);
        faultOfWholes(checks);
        faultOfLetters(checks);
        faultOfNumbers(checks);
        faultInLongPads(checks);
        runRefused(checks);
        runOneChange(checks);
        runStops(checks);
        runDoesAsMethods(checks);
        why(checks);
        whyIsKept(checks);
    }

    private static void append(Checks checks) {
        checks.test("12: the least character code is 33, the greatest 126", c -> {
            RoofOrdinances x = new RoofOrdinances();
            c.due("append(33)", x.append(33), 1);
            c.due("append(126)", x.append(126), 2);
        });
        checks.test("12: a code below 33 or above 126 is INVALID_ARGUMENT", c -> {
            RoofOrdinances x = new RoofOrdinances();
            for (int code : Edges.outside(33, 126)) {
                c.due("append(" + code + ")", x.append(code), INVALID);
            }
            for (int code : new int[] {0, -33, 256 + 'd', 65536 + 'd', 65536 * 256 + 'd'}) {
                c.due("append(" + code + ")", x.append(code), INVALID);
            }
            c.due("count(16)", x.count(16), 0);
        });
        checks.test("12: the pad takes 60 characters, and answers LIMIT_REACHED to the next", c -> {
            RoofOrdinances x = new RoofOrdinances();
            for (int length = 1; length <= 60; length++) {
                c.due("append(100)", x.append(100), length);
            }
            c.due("append(100)", x.append(100), Edges.LIMIT_REACHED);
            c.due("append(33)", x.append(33), Edges.LIMIT_REACHED);
            c.due("append(126)", x.append(126), Edges.LIMIT_REACHED);
            c.due("count(16)", x.count(16), 60);
        });
        checks.test("12: INVALID_ARGUMENT ahead of LIMIT_REACHED", c -> {
            RoofOrdinances x = Texts.with("d".repeat(60));
            for (int code : Edges.outside(33, 126)) {
                c.due("append(" + code + ")", x.append(code), INVALID);
            }
        });
        checks.test("12: each character from 33 to 126 is kept as it is", c -> {
            for (int code = 33; code <= 126; code++) {
                RoofOrdinances x = new RoofOrdinances();
                c.due("append(" + code + ")", x.append(code), 1);
                int want = code == 'd' ? NOT_FOUND : "htwc".indexOf(code) >= 0 ? 1 : 0;
                c.due("fault of " + (char) code, x.fault(), want);
            }
        });
        checks.test("12: an emptied pad takes 60 characters again", c -> {
            RoofOrdinances x = Texts.with("d".repeat(60));
            x.clear();
            c.due("append(100)", x.append(100), 1);
            Texts.put(x, "d,".repeat(29) + "d");
            c.due("run()", x.run(), 30);
            c.due("append(100)", x.append(100), 1);
        });
    }

    private static void clear(Checks checks) {
        checks.test("13: an empty pad had the length 0", c -> {
            RoofOrdinances x = new RoofOrdinances();
            c.due("clear()", x.clear(), 0);
            c.due("clear()", x.clear(), 0);
        });
        checks.test("13: a full pad had the length 60", c -> {
            RoofOrdinances x = Texts.with("x".repeat(60));
            c.due("clear()", x.clear(), 60);
            c.due("count(16)", x.count(16), 0);
            c.due("clear()", x.clear(), 0);
        });
        checks.test("13: nothing of the earlier text is left", c -> {
            RoofOrdinances x = Texts.with("c15");
            Texts.put(x, "c1");
            c.due("fault()", x.fault(), NOT_FOUND);
            c.due("run()", x.run(), 1);
            c.due("roof(1, 0)", x.roof(1, 0), 1);
            c.due("roof(15, 0)", x.roof(15, 0), 0);
            Texts.put(x, "h0:27,d");
            Texts.put(x, "h0:2");
            c.due("run()", x.run(), 0);
            c.due("why(0), as the smoke is on the roof 2", x.why(0), 4);
            c.due("count(0)", x.count(0), 0);
        });
        checks.test("13: it is no change", c -> {
            RoofOrdinances x = Texts.with("d");
            x.clear();
            c.due("count(17)", x.count(17), 0);
        });
    }

    private static void dueFault(Checks c, String text, int want) {
        RoofOrdinances x = Texts.with(text);
        c.due("fault of " + text, x.fault(), want);
        c.due("run of " + text + " is possible", x.run() == NOT_POSSIBLE ? 0 : 1, want == NOT_FOUND ? 1 : 0);
    }

    private static void faultOfWholes(Checks checks) {
        checks.test("14: an empty pad has its fault at 0", c -> dueFault(c, "", 0));
        checks.test("14: a complete pad has none", c -> {
            for (String text : new String[] {"d", "c0", "h0:0", "t3:27", "w1:14", "d,d", "d,c15,h2:16"}) {
                dueFault(c, text, NOT_FOUND);
            }
        });
        checks.test("14: an incomplete pad has its fault at its length", c -> {
            for (String text : new String[] {"h", "t", "w", "c", "h0", "h0:", "d,", "c1,", "h0:1,t", "d,w3:"}) {
                dueFault(c, text, text.length());
            }
        });
        checks.test("14: the first wrong character counts, not a later one", c -> {
            dueFault(c, "xyz", 0);
            dueFault(c, "dxyz", 1);
            dueFault(c, "hh", 1);
            dueFault(c, "h0:3,x,,", 3);
        });
        checks.test("14: a wrong character counts ahead of what is missing", c -> {
            dueFault(c, "h9", 1);
            dueFault(c, "h0;", 2);
            dueFault(c, "c,", 1);
        });
        checks.test("14: between two parts there is one comma, and none at the beginning", c -> {
            dueFault(c, ",", 0);
            dueFault(c, ",d", 0);
            dueFault(c, "d,,d", 2);
            dueFault(c, "dd", 1);
            dueFault(c, "c1d", 2);
            dueFault(c, "h0:1t0:1", 4);
            dueFault(c, "d;d", 1);
        });
    }

    private static void faultOfLetters(Checks checks) {
        checks.test("14: a part begins with h, t, w, c or d alone", c -> {
            for (int code = 33; code <= 126; code++) {
                int want = code == 'd' ? NOT_FOUND : "htwc".indexOf(code) >= 0 ? 3 : 2;
                dueFault(c, "d," + (char) code, want);
            }
        });
        checks.test("14: behind d there is nothing but a comma", c -> {
            for (int code = 33; code <= 126; code++) {
                dueFault(c, "d" + (char) code, code == ',' ? 2 : 1);
            }
        });
        checks.test("14: an owner is a digit 0 to 3", c -> {
            for (char letter : "htw".toCharArray()) {
                for (int code = 33; code <= 126; code++) {
                    boolean isOwner = code >= '0' && code <= '3';
                    dueFault(c, "" + letter + (char) code, isOwner ? 2 : 1);
                }
            }
        });
        checks.test("14: an owner is one digit, with a colon behind it", c -> {
            for (char letter : "htw".toCharArray()) {
                for (int code = 33; code <= 126; code++) {
                    dueFault(c, letter + "2" + (char) code, code == ':' ? 3 : 2);
                }
            }
        });
        checks.test("14: behind c there is no owner and no colon", c -> {
            dueFault(c, "c:", 1);
            dueFault(c, "c0:1", 2);
        });
    }

    private static void faultOfNumbers(Checks checks) {
        checks.test("14: the gangways 0 and 27 are fine, 28 is not", c -> {
            dueFault(c, "h0:0", NOT_FOUND);
            dueFault(c, "h0:27", NOT_FOUND);
            dueFault(c, "h0:28", 4);
            dueFault(c, "h0:29", 4);
        });
        checks.test("14: the numbers without a gangway are wrong at their last digit", c -> {
            for (char letter : "htw".toCharArray()) {
                dueFault(c, letter + "0:3", 3);
                dueFault(c, letter + "0:7", 3);
                dueFault(c, letter + "0:11", 4);
                dueFault(c, letter + "0:15", 4);
            }
        });
        checks.test("14: no gangway begins with 3 or 7, nor goes on behind 4, 5, 6, 8 or 9", c -> {
            dueFault(c, "h0:30", 3);
            dueFault(c, "h0:70", 3);
            for (char first : "45689".toCharArray()) {
                for (char second = '0'; second <= '9'; second++) {
                    dueFault(c, "t1:" + first + second, 4);
                }
            }
        });
        checks.test("14: no gangway has three digits", c -> {
            dueFault(c, "w0:100", 5);
            dueFault(c, "w0:270", 5);
            dueFault(c, "w0:000", 4);
        });
        checks.test("14: a needless 0 ahead of a gangway is wrong at the digit behind it", c -> {
            for (char second = '0'; second <= '9'; second++) {
                dueFault(c, "h3:0" + second, 4);
            }
        });
        checks.test("14: the roofs 0 and 15 are fine, 16 is not", c -> {
            dueFault(c, "c0", NOT_FOUND);
            dueFault(c, "c15", NOT_FOUND);
            dueFault(c, "c16", 2);
            dueFault(c, "c19", 2);
            dueFault(c, "c20", 2);
            dueFault(c, "c99", 2);
        });
        checks.test("14: the roofs 3, 7, 11 and 15 are fine, though no gangways", c -> {
            dueFault(c, "c3", NOT_FOUND);
            dueFault(c, "c7", NOT_FOUND);
            dueFault(c, "c11", NOT_FOUND);
            dueFault(c, "c3,c7,c11,c15", NOT_FOUND);
        });
        checks.test("14: a needless 0 ahead of a roof is wrong at the digit behind it", c -> {
            for (char second = '0'; second <= '9'; second++) {
                dueFault(c, "c0" + second, 2);
            }
        });
        checks.test("14: no roof has three digits", c -> {
            dueFault(c, "c100", 3);
            dueFault(c, "c150", 3);
        });
        checks.test("14: a number needs a digit", c -> {
            dueFault(c, "c,d", 1);
            dueFault(c, "cx", 1);
            dueFault(c, "c-1", 1);
            dueFault(c, "h0:,d", 3);
            dueFault(c, "h0:+1", 3);
        });
    }

    private static void faultInLongPads(Checks checks) {
        checks.test("14: a full pad that is complete has no fault", c -> {
            dueFault(c, "d,".repeat(29) + "c1", NOT_FOUND);
            dueFault(c, "c10," + "h0:20,".repeat(9) + "c1", NOT_FOUND);
        });
        checks.test("14: a full pad that is incomplete has its fault at 60, as orders have any length", c -> {
            dueFault(c, "d,".repeat(30), 60);
            dueFault(c, "d,".repeat(29) + "h3", 60);
            dueFault(c, "d,".repeat(28) + "c1,t", 60);
        });
        checks.test("14: the last character of a full pad can be wrong", c -> {
            dueFault(c, "d,".repeat(29) + "dd", 59);
            dueFault(c, "d,".repeat(28) + "h0:3", 59);
        });
        checks.test("14: the first character of a full pad can be wrong", c -> dueFault(c, "x".repeat(60), 0));
        checks.test("14: it changes nothing", c -> {
            RoofOrdinances x = Texts.with("d,x");
            c.due("fault()", x.fault(), 2);
            c.due("fault()", x.fault(), 2);
            c.due("count(16)", x.count(16), 3);
            c.due("count(17)", x.count(17), 0);
        });
    }

    private static void runRefused(Checks checks) {
        checks.test("15: NOT_POSSIBLE, if the pad is empty", c -> {
            RoofOrdinances x = new RoofOrdinances();
            c.due("run()", x.run(), NOT_POSSIBLE);
            c.due("count(17)", x.count(17), 0);
        });
        checks.test("15: NOT_POSSIBLE, if the pad is not complete, and it stays", c -> {
            RoofOrdinances x = Texts.with("d,d,");
            c.due("run()", x.run(), NOT_POSSIBLE);
            c.due("count(0)", x.count(0), 0);
            c.due("count(16)", x.count(16), 4);
            c.due("count(17)", x.count(17), 0);
            x.append('d');
            c.due("run() of what is complete now", x.run(), 3);
        });
        checks.test("15: NOT_POSSIBLE, if a character is wrong, also the last one, and none is carried out", c -> {
            RoofOrdinances x = Texts.with("d,c1,h0:28");
            c.due("run()", x.run(), NOT_POSSIBLE);
            c.due("count(0)", x.count(0), 0);
            c.due("count(2)", x.count(2), 0);
            c.due("count(16)", x.count(16), 10);
        });
        checks.test("15: a second run has an empty pad", c -> {
            RoofOrdinances x = Texts.with("d");
            c.due("run()", x.run(), 1);
            c.due("run()", x.run(), NOT_POSSIBLE);
            c.due("count(0)", x.count(0), 1);
        });
    }

    private static void runOneChange(Checks checks) {
        checks.test("15: 30 orders are one change", c -> {
            RoofOrdinances x = new RoofOrdinances();
            c.due("run()", Texts.run(x, "d,".repeat(29) + "d"), 30);
            c.due("count(0)", x.count(0), 30);
            c.due("count(17)", x.count(17), 1);
            c.due("undo()", x.undo(), 0);
            c.due("count(0)", x.count(0), 0);
            c.due("count(15)", x.count(15), 1);
        });
        checks.test("15: one change, also if none is carried out, as the first is refused", c -> {
            RoofOrdinances x = new RoofOrdinances();
            c.due("run()", Texts.run(x, "t0:0,d"), 0);
            c.due("count(17)", x.count(17), 1);
            c.due("count(13)", x.count(13), 1);
            c.due("count(16)", x.count(16), 0);
            c.due("undo()", x.undo(), 0);
            c.due("count(13)", x.count(13), 0);
        });
        checks.test("15: one change, also if none is carried out, as the first returns an error", c -> {
            RoofOrdinances x = new RoofOrdinances();
            c.due("run()", Texts.run(x, "w0:27,d"), 0);
            c.due("count(17)", x.count(17), 1);
            c.due("count(16)", x.count(16), 0);
            c.due("undo()", x.undo(), 0);
        });
        checks.test("15: as the fifth state it drops the oldest, alone", c -> {
            RoofOrdinances x = new RoofOrdinances();
            for (int to = 0; to < 4; to++) {
                x.wind(3 - to);
            }
            Texts.run(x, "d,d,d,d,d,d");
            c.due("count(17)", x.count(17), 4);
            x.undo();
            c.due("wind before run()", x.count(1), 0);
            x.undo();
            x.undo();
            c.due("undo()", x.undo(), 0);
            c.due("the oldest wind that is left", x.count(1), 3);
        });
    }

    private static void runStops(Checks checks) {
        checks.test("15: it stops at the first order that is refused, which is counted", c -> {
            RoofOrdinances x = new RoofOrdinances();
            c.due("run()", Texts.run(x, "h0:0,h1:0,h1:0,d"), 1);
            c.due("count(13)", x.count(13), 1);
            c.due("count(0)", x.count(0), 0);
            c.due("gangway(0, 3)", x.gangway(0, 3), 0);
            c.due("count(16)", x.count(16), 0);
        });
        checks.test("15: it stops at the first order that returns an error, which is not refused", c -> {
            RoofOrdinances x = new RoofOrdinances();
            c.due("run()", Texts.run(x, "w0:0,w0:16,d"), 1);
            c.due("count(13)", x.count(13), 0);
            c.due("count(0)", x.count(0), 0);
            c.due("ownerOf(0, 3)", x.ownerOf(0, 3), 1);
            c.due("count(16)", x.count(16), 0);
        });
        checks.test("15: what is carried out ahead of the stop stays", c -> {
            RoofOrdinances x = new RoofOrdinances();
            c.due("run()", Texts.run(x, "d,c0,h2:26,t1:26,d"), 3);
            c.due("count(0)", x.count(0), 1);
            c.due("count(2)", x.count(2), 1);
            c.due("count(5)", x.count(5), 1);
        });
        checks.test("15: the last order can be the one that is refused", c -> {
            RoofOrdinances x = new RoofOrdinances();
            c.due("run()", Texts.run(x, "d,d,t0:0"), 2);
            c.due("why(1)", x.why(1), 2);
        });
        checks.test("15: a day without clean lines, or without lines, is no stop", c -> {
            RoofOrdinances x = new RoofOrdinances();
            c.due("run()", Texts.run(x, "d,h0:0,c0,d,d,d,t0:0"), 7);
            c.due("count(0)", x.count(0), 4);
            c.due("count(5)", x.count(5), 0);
        });
        checks.test("15: a chimney that leaves few roofs in smoke is no stop", c -> {
            RoofOrdinances x = new RoofOrdinances();
            c.due("run()", Texts.run(x, "c3,c2,c3,c2,c2"), 5);
            c.due("count(2)", x.count(2), 1);
        });
        checks.test("15: each order sees what those ahead of it did", c -> {
            RoofOrdinances x = new RoofOrdinances();
            c.due("run()", Texts.run(x, "c0,c0,h0:0,t0:0,h1:0,w1:17,w1:0,w1:0,w1:0"), 9);
            c.due("ownerOf(1, 3)", x.ownerOf(1, 3), 0);
            c.due("gangway(0, 3)", x.gangway(0, 3), 1);
        });
    }

    private static void runDoesAsMethods(Checks checks) {
        checks.test("15: each order does what its method does", c -> {
            RoofOrdinances x = Portraits.lively();
            Texts.run(x, "c0,d,h3:25,t0:0,w3:26,w1:4,c4,d");
            RoofOrdinances y = Portraits.lively();
            y.chimney(0);
            y.day();
            y.hang(3, 25);
            y.take(0, 0);
            y.walk(3, 26);
            y.walk(1, 4);
            y.chimney(4);
            y.day();
            c.due("why(0)", x.why(0), NOT_FOUND);
            Portraits.due(c, "run()", Portraits.of(x), Portraits.of(y));
        });
        checks.test("15: each owner and each gangway of an order is that of its method", c -> {
            for (int owner = 0; owner < 4; owner++) {
                for (int gangway : Edges.GANGWAYS) {
                    RoofOrdinances x = new RoofOrdinances();
                    c.due("run of h" + owner + ":" + gangway, Texts.run(x, "h" + owner + ":" + gangway), 1);
                    c.due("gangway(" + gangway + ", 3)", x.gangway(gangway, 3), owner);
                    c.due("run of t" + owner + ":" + gangway, Texts.run(x, "t" + owner + ":" + gangway), 1);
                    c.due("gangway(" + gangway + ", 3)", x.gangway(gangway, 3), NOT_FOUND);
                }
            }
        });
        checks.test("15: each roof of an order is that of its method", c -> {
            for (int roof = 0; roof < 16; roof++) {
                RoofOrdinances x = new RoofOrdinances();
                c.due("run of c" + roof, Texts.run(x, "c" + roof), 1);
                c.due("roof(" + roof + ", 0)", x.roof(roof, 0), 1);
                c.due("count(2)", x.count(2), 1);
            }
        });
        checks.test("15: each walk of an order is that of its method", c -> {
            for (int owner = 0; owner < 4; owner++) {
                for (int gangway : Edges.GANGWAYS) {
                    RoofOrdinances x = new RoofOrdinances();
                    boolean isHere = Edges.leadsFrom(gangway, 5 * owner);
                    String text = "w" + owner + ":" + gangway;
                    c.due("run of " + text, Texts.run(x, text), isHere ? 1 : 0);
                    c.due("ownerOf(" + owner + ", 3)", x.ownerOf(owner, 3),
                            isHere ? Edges.otherEnd(gangway, 5 * owner) : 5 * owner);
                    c.due("why(0)", x.why(0), isHere ? NOT_FOUND : NOT_POSSIBLE);
                }
            }
        });
    }

    private static void why(Checks checks) {
        checks.test("16: INVALID_ARGUMENT below 0 and above 2, also ahead of NOT_FOUND", c -> {
            RoofOrdinances x = new RoofOrdinances();
            for (int what : Edges.outside(0, 2)) {
                c.due("why(" + what + ")", x.why(what), INVALID);
            }
            Texts.run(x, "t0:0");
            for (int what : Edges.outside(0, 2)) {
                c.due("why(" + what + ")", x.why(what), INVALID);
            }
        });
        checks.test("16: NOT_FOUND, if there was no run", c -> dueWhy(c, new RoofOrdinances(), NOT_FOUND));
        checks.test("16: NOT_FOUND, if all runs were NOT_POSSIBLE", c -> {
            RoofOrdinances x = Texts.with("t0:0,");
            x.run();
            dueWhy(c, x, NOT_FOUND);
        });
        checks.test("16: NOT_FOUND, if all orders were carried out", c -> {
            RoofOrdinances x = Texts.with("d,h0:0");
            x.run();
            dueWhy(c, x, NOT_FOUND);
        });
        checks.test("16: each reason, and the error", c -> {
            int[] reasons = {1, 2, 3, 4, 5, 6, 7, 8, 9, NOT_POSSIBLE};
            String[] orders = {"h0:0", "h0:1", "h2:27", "h0:14", "h3:21", "t0:27", "t1:1", "w1:17", "w1:21", "w0:27"};
            for (int index = 0; index < orders.length; index++) {
                RoofOrdinances x = new RoofOrdinances();
                x.bears(0, 0);
                x.hang(0, 1);
                x.owner(2, 3, 0, false);
                x.hang(0, 21);
                x.chimney(15);
                x.coop(8);
                x.bears(17, 2);
                x.bears(21, 5);
                if (reasons[index] == 5) {
                    x.take(0, 21);
                }
                c.due("run of " + orders[index], Texts.run(x, orders[index]), 0);
                c.due("why(0) of " + orders[index], x.why(0), reasons[index]);
            }
        });
        checks.test("16: the reasons 1 and 3 of a walk", c -> {
            RoofOrdinances x = new RoofOrdinances();
            x.bears(0, 0);
            x.owner(0, 3, 1, false);
            Texts.run(x, "w0:0");
            c.due("why(0)", x.why(0), 1);
            Texts.run(x, "w0:16");
            c.due("why(0)", x.why(0), 3);
        });
        checks.test("16: the first order has the number 0, and its letter the position 0", c -> {
            RoofOrdinances x = Texts.with("t0:0,d");
            x.run();
            c.due("why(1)", x.why(1), 0);
            c.due("why(2)", x.why(2), 0);
        });
        checks.test("16: the number counts orders, the position characters", c -> {
            RoofOrdinances x = Texts.with("d,c10,c9,h0:0,t0:0,t0:0,d");
            c.due("run()", x.run(), 5);
            c.due("why(1)", x.why(1), 5);
            c.due("why(2)", x.why(2), 19);
        });
        checks.test("16: the last order of a full pad", c -> {
            RoofOrdinances x = Texts.with("d,".repeat(28) + "t0:0");
            c.due("run()", x.run(), 28);
            c.due("why(0)", x.why(0), 6);
            c.due("why(1)", x.why(1), 28);
            c.due("why(2)", x.why(2), 56);
        });
    }

    private static void dueWhy(Checks c, RoofOrdinances x, int want) {
        for (int what = 0; what < 3; what++) {
            c.due("why(" + what + ")", x.why(what), want);
        }
    }

    private static void whyIsKept(Checks checks) {
        checks.test("16: a run that is NOT_POSSIBLE leaves it", c -> {
            RoofOrdinances x = Texts.with("d,t0:0");
            x.run();
            c.due("run()", x.run(), NOT_POSSIBLE);
            c.due("run()", Texts.run(x, "x"), NOT_POSSIBLE);
            c.due("why(0)", x.why(0), 6);
            c.due("why(1)", x.why(1), 1);
            c.due("why(2)", x.why(2), 2);
        });
        checks.test("16: the latest run counts, also if it carries all out", c -> {
            RoofOrdinances x = Texts.with("d,t0:0");
            x.run();
            Texts.run(x, "w0:27");
            c.due("why(0)", x.why(0), NOT_POSSIBLE);
            c.due("why(1)", x.why(1), 0);
            Texts.run(x, "d");
            dueWhy(c, x, NOT_FOUND);
        });
        checks.test("16: other calls that are refused, or return errors, leave it", c -> {
            RoofOrdinances x = Texts.with("d,t0:0");
            x.run();
            x.walk(0, 27);
            x.hang(0, 3);
            x.take(0, 1);
            x.clear();
            c.due("why(0)", x.why(0), 6);
            c.due("why(1)", x.why(1), 1);
        });
        checks.test("16: it is not a part of what is undone", c -> {
            RoofOrdinances x = Texts.with("d,t0:0");
            x.run();
            x.undo();
            c.due("why(1)", x.why(1), 1);
            Texts.run(x, "d");
            x.undo();
            dueWhy(c, x, NOT_FOUND);
        });
        checks.test("16: it is not a part of what is restored", c -> {
            RoofOrdinances x = new RoofOrdinances();
            x.save();
            Texts.run(x, "d,t0:0");
            x.restore();
            c.due("why(1)", x.why(1), 1);
            x.save();
            Texts.run(x, "d");
            x.restore();
            dueWhy(c, x, NOT_FOUND);
        });
    }
}
