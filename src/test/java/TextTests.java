/** Promises 12 to 16. */
final class TextTests {
    private static final int INVALID = RoofOrdinances.INVALID_ARGUMENT;
    private static final int NOT_POSSIBLE = RoofOrdinances.NOT_POSSIBLE;
    private static final int NOT_FOUND = RoofOrdinances.NOT_FOUND;

    private TextTests() {
    }

    static void all(Checks checks) {
        checks.test("promise 12: append", TextTests::append);
        checks.test("promise 13: clear", TextTests::clear);
        checks.test("promise 14: fault", TextTests::fault);
        checks.test("promise 14: every number", TextTests::everyNumber);
        checks.test("promise 14: every sign behind every beginning", TextTests::everySign);
        checks.test("promise 15: run", TextTests::run);
        checks.test("promise 15: every kind of order", TextTests::everyOrder);
        checks.test("promise 15: the longest pads", TextTests::longestPads);
        checks.test("promise 16: why", TextTests::why);
    }

    private static void append(Checks c) {
        RoofOrdinances x = new RoofOrdinances();
        c.due("append(32)", x.append(32), INVALID);
        c.due("append(127)", x.append(127), INVALID);
        c.due("append(-1)", x.append(-1), INVALID);
        c.due("append(65636)", x.append(65536 + 100), INVALID);
        c.due("append(33)", x.append(33), 1);
        c.due("append(126)", x.append(126), 2);
        for (int length = 3; length <= 60; length++) {
            c.due("append(100)", x.append(100), length);
        }
        c.due("append(100)", x.append(100), RoofOrdinances.LIMIT_REACHED);
        c.due("append(32)", x.append(32), INVALID);
        c.due("count(16)", x.count(16), 60);
        c.due("no change", x.count(17), 0);
    }

    private static void clear(Checks c) {
        RoofOrdinances x = Texts.with("abc");
        c.due("clear()", x.clear(), 3);
        c.due("clear()", x.clear(), 0);
        c.due("count(16)", x.count(16), 0);
        c.due("append(100)", x.append(100), 1);
        c.due("fault()", x.fault(), NOT_FOUND);
        c.due("no change", x.count(17), 0);
    }

    private static void dueFault(Checks c, String text, int want) {
        RoofOrdinances x = Texts.with(text);
        c.due("fault of " + text, x.fault(), want);
        c.due("the pad stays", x.count(16), text.length());
    }

    private static void fault(Checks c) {
        dueFault(c, "", 0);
        dueFault(c, "d", NOT_FOUND);
        dueFault(c, "d,d", NOT_FOUND);
        dueFault(c, "d,", 2);
        dueFault(c, "d,,", 2);
        dueFault(c, ",", 0);
        dueFault(c, "dd", 1);
        dueFault(c, "d:", 1);
        dueFault(c, "D", 0);
        dueFault(c, "x,d", 0);
        dueFault(c, "0", 0);
        dueFault(c, "h", 1);
        dueFault(c, "h4", 1);
        dueFault(c, "h,", 1);
        dueFault(c, "h0", 2);
        dueFault(c, "h01", 2);
        dueFault(c, "h3:", 3);
        dueFault(c, "h3:,", 3);
        dueFault(c, "h3:27", NOT_FOUND);
        dueFault(c, "h3:28", 4);
        dueFault(c, "t3:100", 5);
        dueFault(c, "w0:0", NOT_FOUND);
        dueFault(c, "w0:00", 4);
        dueFault(c, "w0:3", 3);
        dueFault(c, "t0:7", 3);
        dueFault(c, "t0:11", 4);
        dueFault(c, "t0:15", 4);
        dueFault(c, "c", 1);
        dueFault(c, "c3", NOT_FOUND);
        dueFault(c, "c7", NOT_FOUND);
        dueFault(c, "c11", NOT_FOUND);
        dueFault(c, "c15", NOT_FOUND);
        dueFault(c, "c16", 2);
        dueFault(c, "c20", 2);
        dueFault(c, "c05", 2);
        dueFault(c, "c1:", 2);
        dueFault(c, "h0:1,t1:20,w2:9,c10,d", NOT_FOUND);
        dueFault(c, "h0:1,t1:20,w2:9,c10,d,e", 22);
        dueFault(c, "h0:1,t1:20,w2:9,c10,h0:15", 24);
    }

    private static void everyNumber(Checks c) {
        for (int number = 0; number < 100; number++) {
            boolean isGangway = number < 28 && number != 3 && number != 7 && number != 11 && number != 15;
            int firstDigit = number < 10 ? number : number / 10;
            int wrong = firstDigit == 3 || firstDigit == 7 ? 3 : 4;
            for (String letter : new String[] {"h", "t", "w"}) {
                dueFault(c, letter + "1:" + number, isGangway ? NOT_FOUND : wrong);
            }
            dueFault(c, "c" + number, number < 16 ? NOT_FOUND : 2);
        }
    }

    private static void everySign(Checks c) {
        String[] beginnings = {"", "d", "h", "h2", "h2:", "h2:0", "h2:1", "h2:2", "h2:4", "h2:10", "c",
            "c0", "c1", "c2", "c10", "d,"};
        String[] allowed = {"htwcd", ",", "0123", ":", "01245689", ",", "02346789,",
            "01234567,", ",", ",", "0123456789", ",", "012345,", ",", ",", "htwcd"};
        for (int index = 0; index < beginnings.length; index++) {
            for (char sign = 33; sign < 127; sign++) {
                int length = beginnings[index].length();
                RoofOrdinances x = Texts.with(beginnings[index] + sign);
                boolean isWrong = x.fault() == length;
                c.due("fault behind " + beginnings[index] + " at " + sign, isWrong ? 0 : 1,
                        allowed[index].indexOf(sign) >= 0 ? 1 : 0);
            }
        }
    }

    private static void run(Checks c) {
        RoofOrdinances x = new RoofOrdinances();
        c.due("run()", x.run(), NOT_POSSIBLE);
        c.due("run of d,", Texts.run(x, "d,"), NOT_POSSIBLE);
        c.due("the pad stays", x.count(16), 2);
        c.due("no change", x.count(17), 0);
        c.due("run of d,d,d", Texts.run(x, "d,d,d"), 3);
        c.due("the pad is empty", x.count(16), 0);
        c.due("the day", x.count(0), 3);
        c.due("one change", x.count(17), 1);
        c.due("undo()", x.undo(), 0);
        c.due("the day", x.count(0), 0);
        c.due("the pad is not undone", x.count(16), 0);
        c.due("refused at once", Texts.run(x, "t0:0,d"), 0);
        c.due("the pad is empty", x.count(16), 0);
        c.due("refused", x.count(13), 1);
        c.due("one change", x.count(17), 1);
        c.due("the day", x.count(0), 0);
        c.due("an error at once", Texts.run(x, "w0:1,d"), 0);
        c.due("an error is not counted", x.count(13), 1);
        c.due("one change", x.count(17), 2);
        c.due("the pad is empty", x.count(16), 0);
    }

    private static void everyOrder(Checks c) {
        RoofOrdinances x = new RoofOrdinances();
        c.due("run", Texts.run(x, "h2:26,h3:9,t2:26,w1:21,w1:9,c15,d"), 4);
        c.due("why(0): another's line", x.why(0), 9);
        c.due("line over 9", x.gangway(9, 3), 3);
        c.due("line over 26", x.gangway(26, 3), NOT_FOUND);
        c.due("lines", x.count(5), 1);
        c.due("taken", x.count(11), 1);
        c.due("place", x.ownerOf(1, 3), 9);
        c.due("chimneys", x.count(2), 0);
        c.due("days", x.count(0), 0);
        c.due("run", Texts.run(x, "w3:14,c10,d,d,c10,c0"), 6);
        c.due("place", x.ownerOf(3, 3), 14);
        c.due("walks", x.ownerOf(3, 7), 1);
        c.due("chimneys", x.count(2), 1);
        c.due("roof(0, 0)", x.roof(0, 0), 1);
        c.due("days", x.count(0), 2);
        c.due("soot of two days, though the wind turned between them", x.gangway(9, 4), 2);
        c.due("why(0)", x.why(0), NOT_FOUND);
    }

    private static void longestPads(Checks c) {
        RoofOrdinances x = new RoofOrdinances();
        c.due("30 days", Texts.run(x, "d,".repeat(29) + "d"), 30);
        c.due("days", x.count(0), 30);
        String sixty = "d,".repeat(28) + "c10d";
        c.due("length", sixty.length(), 60);
        dueFault(c, sixty, 59);
        dueFault(c, "d,".repeat(30), 60);
        c.due("60 signs", Texts.run(x, "d,".repeat(27) + "d,d,c1"), 30);
        c.due("60 signs", Texts.run(x, "c10," + "h0:20,".repeat(9) + "d"), 2);
        c.due("why(2)", x.why(2), 10);
    }

    private static void why(Checks c) {
        RoofOrdinances x = new RoofOrdinances();
        c.due("why(0)", x.why(0), NOT_FOUND);
        c.due("why(-1)", x.why(-1), INVALID);
        c.due("why(3)", x.why(3), INVALID);
        c.due("run", Texts.run(x, "c10,h0:20,h1:20,d"), 2);
        c.due("why(0)", x.why(0), 2);
        c.due("why(1)", x.why(1), 2);
        c.due("why(2)", x.why(2), 10);
        x.undo();
        c.due("it is not undone", x.why(0), 2);
        x.save();
        x.restore();
        c.due("nor restored", x.why(2), 10);
        x.take(0, 0);
        c.due("nor told of other calls", x.why(0), 2);
        c.due("run with a fault", Texts.run(x, "h"), NOT_POSSIBLE);
        c.due("it stays", x.why(0), 2);
        c.due("run", Texts.run(x, "w0:1"), 0);
        c.due("why(0)", x.why(0), NOT_POSSIBLE);
        c.due("why(1)", x.why(1), 0);
        c.due("why(2)", x.why(2), 0);
        c.due("run", Texts.run(x, "d"), 1);
        for (int what = 0; what < 3; what++) {
            c.due("why(" + what + ")", x.why(what), NOT_FOUND);
        }
        c.due("why(3)", x.why(3), INVALID);
    }
}
