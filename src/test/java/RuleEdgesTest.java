/** Section 3's TEXT and promises 17 to 21, sentence by sentence at their edges. */
public final class RuleEdgesTest extends Given {
    private static final String DIGITS = "0123456789";
    private static final String NAMES = "cdfhnt";
    private static final String ONES = "1+1+1+1+1+1+1+1+1+1+1+1+1+1+1+1+1+1+1+1+1+1+1+1+1+1+1+1+1+";

    private RuleEdgesTest() {
    }

    public static void main(String[] args) {
        feedLimits();
        feedBytes();
        feedFull();
        wipes();
        longTexts();
        eachByte();
        numbers();
        openAtOnce();
        endsTooEarly();
        faultChangesNothing();
        faultLeavesNothing();
        ruleTakesTheTape();
        drifts();
        saysLimits();
        sums();
        conditions();
        nameC();
        nameD();
        otherNames();
        heldWithin();
        nearestThatCanBe();
        Check.end();
    }

    private static void feedLimits() {
        sentence("feed: n 1 to 4. BEYOND: n");
        FuelTurns x = new FuelTurns();
        for (int n : new int[] {0, 5, -1, LEAST, MOST}) {
            due(x.feed('1', n), BEYOND);
        }
        due(x.count(4), 0);
        due(x.feed('1', 1), 1);
        due(x.feed('1', 4), 5);
    }

    /** What a TEXT tells of which these are the last bytes fed. */
    private static int toldBehind(String text, int bytes, int n) {
        FuelTurns x = new FuelTurns();
        feedText(x, text);
        x.feed(bytes, n);
        due(x.rule(), 0);
        return x.says(0);
    }

    private static void feedBytes() {
        sentence("feed: the n lowest bytes of a number behind it, the highest of these first");
        due(toldBehind("", 0x31323334, 4), 1234);
        due(toldBehind("", 0x31323334, 3), 234);
        due(toldBehind("", 0x31323334, 2), 34);
        due(toldBehind("", 0x31323334, 1), 4);
        due(toldBehind("", 0xff323334, 3), 234);
        due(toldBehind("12", 0xffff3334, 2), 1234);
        due(toldBehind("123", 0x80000034, 1), 1234);
        FuelTurns x = new FuelTurns();
        due(x.feed(-1, 4), 4);
        due(x.rule(), -1);
        x.wipe();
        due(x.feed('1', 2), 2);
        due(x.rule(), -1);
        x.wipe();
        due(x.feed('1' << 8, 2), 2);
        due(x.rule(), -2);
    }

    private static void feedFull() {
        sentence("THE TAPE (bytes, at most 60). FULL");
        for (int n = 1; n <= 4; n++) {
            FuelTurns x = new FuelTurns();
            for (int has = n; has <= 60; has += n) {
                due(x.feed(0x2b312b31, n), has);
            }
            for (int more = 1; more <= 4; more++) {
                due(x.feed('1', more), FULL);
            }
            due(x.count(4), 60);
        }
        for (int has = 57; has < 60; has++) {
            FuelTurns x = new FuelTurns();
            feedText(x, (ONES + "1").substring(0, has));
            for (int n = 61 - has; n <= 4; n++) {
                due(x.feed('1', n), FULL);
            }
            due(x.count(4), has);
            due(x.feed('1', 60 - has), 60);
        }
        sentence("feed: BEYOND: n. FULL (in this order)");
        FuelTurns y = new FuelTurns();
        feedText(y, ONES + "11");
        due(y.count(4), 60);
        due(y.feed('1', 5), BEYOND);
        due(y.feed('1', 0), BEYOND);
        due(y.feed('1', 1), FULL);
        due(y.rule(), 0);
        due(y.says(0), 40);
        due(y.feed('1', 4), 4);
    }

    private static void wipes() {
        sentence("wipe: THE TAPE is empty: how many it had");
        FuelTurns x = new FuelTurns();
        due(x.wipe(), 0);
        feedText(x, ONES + "11");
        due(x.wipe(), 60);
        due(x.wipe(), 0);
        due(x.count(4), 0);
        due(x.feed('7', 1), 1);
        due(x.rule(), 0);
        due(x.says(0), 7);
        due(x.wipe(), 0);
        due(x.says(0), 7);
    }

    private static void tells(String text, int told) {
        FuelTurns x = new FuelTurns();
        due(ruleOf(x, text), 0);
        due(x.says(0), told);
    }

    private static void fault(String text, int place) {
        FuelTurns x = new FuelTurns();
        due(ruleOf(x, text), -1 - place);
        due(x.count(4), text.length());
        due(x.count(3), 0);
        due(x.status(-1), 0);
    }

    private static void longTexts() {
        sentence("THE RULE is a TEXT, read from THE TAPE (bytes, at most 60)");
        tells(ONES + "1", 30);
        tells(ONES + "11", 40);
        tells("1234567" + "+1234567".repeat(6), 7 * 1234567);
        tells("-9999999" + "-9999999".repeat(6), -7 * 9999999);
        tells("1<2&".repeat(13) + "1<2?3:45", 3);
        tells("1<2&".repeat(12) + "2<1&" + "1<2?3:45", 45);
        tells("2<1?5:".repeat(9) + "123456", 123456);
        fault("2<1?5:".repeat(10), 60);
        fault(ONES + "1+", 60);
        fault(ONES + "(1", 60);
        fault(ONES + "1)", 59);
        fault(ONES + "1x", 59);
        fault(")" + ONES + "1", 0);
    }

    /** Behind a text each of the 256 bytes: which of them go on, and which of these end a TEXT. */
    private static void goOn(String text, String ending, String going) {
        sentence("FAULT: the place of the first byte with which no TEXT goes on: behind " + text);
        int place = text.length();
        for (char sign = 0; sign < 256; sign++) {
            FuelTurns x = new FuelTurns();
            feedText(x, text);
            x.feed(sign, 1);
            boolean ends = ending.indexOf(sign) >= 0;
            boolean goes = going.indexOf(sign) >= 0;
            due(x.rule(), ends ? 0 : goes ? -1 - (place + 1) : -1 - place);
        }
    }

    private static void eachByte() {
        String part = DIGITS + NAMES;
        goOn("", part, "-(");
        goOn("1", DIGITS, "+-<=>");
        goOn("123456", DIGITS, "+-<=>");
        goOn("1234567", "", "+-<=>");
        goOn("c", "", "+-<=>");
        goOn("1+", part, "-(");
        goOn("1-", part, "-(");
        goOn("-", part, "-(");
        goOn("----", part, "-(");
        goOn("-----", part, "");
        goOn("(", "", part + "-(");
        goOn("((((", "", part + "-(");
        goOn("(((((", "", part);
        goOn("(1", ")", DIGITS + "+-");
        goOn("((1", "", DIGITS + "+-)");
        goOn("(c", ")", "+-");
        goOn("(1+", "", part + "-(");
        goOn("(1)", "", "+-<=>");
        goOn("-(1)", "", "+-<=>");
        goOn("1<", "", part + "-(");
        goOn("1=", "", part + "-(");
        goOn("1>", "", part + "-(");
        goOn("1<2", "", DIGITS + "+-&?");
        goOn("1<c", "", "+-&?");
        goOn("1<(2", "", DIGITS + "+-)");
        goOn("1<(2)", "", "+-&?");
        goOn("1<2&", "", part + "-(");
        goOn("1<2&3", "", DIGITS + "+-<=>");
        goOn("1<2&3=", "", part + "-(");
        goOn("1<2&3=4", "", DIGITS + "+-&?");
        goOn("1<2?", "", part + "-(");
        goOn("1<2?3", "", DIGITS + "+-:");
        goOn("1<2?(3)", "", "+-:");
        goOn("1<2?3:", part, "-(");
        goOn("1<2?3:4", DIGITS, "+-<=>");
        goOn("1<2?3:4<5", "", DIGITS + "+-&?");
        goOn("1<2?3:4<5?6", "", DIGITS + "+-:");
        goOn("1<2?3:4<5?6:7", DIGITS, "+-<=>");
    }

    private static void numbers() {
        sentence("NUMBER of 1 to 7 digits");
        tells("0", 0);
        tells("9", 9);
        tells("9999999", 9999999);
        tells("0000000", 0);
        tells("0000009", 9);
        tells("-0", 0);
        fault("00000000", 7);
        fault("12345678", 7);
        fault("1+12345678", 9);
        fault("(12345678", 8);
        fault("-12345678", 8);
        fault("1<12345678", 9);
        tells("1234567-1234567", 0);
        tells("1234567<1234568?1234567:7654321", 1234567);
    }

    private static void openAtOnce() {
        sentence("At most 5 of ( and - (of P) are open at once (a - till its P ends)");
        tells("(((((7)))))", 7);
        tells("-----7", -7);
        tells("-(-(-7))", -7);
        tells("(-(-(7)))", 7);
        tells("-((((7))))", -7);
        tells("----(7)", 7);
        tells("((((-7))))", -7);
        fault("((((((7))))))", 5);
        fault("------7", 5);
        fault("-(-(--7))", 5);
        fault("-(-(-(7)))", 5);
        fault("-----(7)", 5);
        fault("(((((-7)))))", 5);
        fault("-(((((7)))))", 5);
        fault("----(-7)", 5);
        fault("((((-(7)))))", 5);
        sentence("(a - till its P ends): it is open no more behind it");
        tells("-----7-----7", -7 - 7);
        tells("-----7+-----7", -14);
        tells("((((-7+(8)))))", 1);
        tells("((((-7--8))))", 1);
        tells("-((((7))))+(((((8)))))", 1);
        tells("((((-7+-8-(9)))))", -24);
        tells("((((-c+(8)))))", 8);
        fault("((((-7+-(8)))))", 8);
        sentence("(-, but of S, is never open)");
        tells("(((((7-8)))))", -1);
        tells("7-8-9-1-2-3-4", -20);
        fault("(((((7--8)))))", 7);
        fault("((((7-(-8)))))", 7);
    }

    private static void endsTooEarly() {
        sentence("FAULT: how many there are, if it ends too early");
        for (String text : new String[] {"", "-", "(", "1+", "1-", "(1", "(1)+", "-(1", "1<", "1<2", "1<2&", "1<2&3",
            "1<2&3>4", "1<2?", "1<2?3", "1<2?3:", "1<2?3:4<5", "1<2?3:4<5?6", "1<2?3:4<5?6:", "1=c+d"}) {
            fault(text, text.length());
        }
        sentence("rule: with a FAULT: -1 less the FAULT");
        due(new FuelTurns().rule(), -1);
    }

    private static void faultChangesNothing() {
        sentence("rule: with a FAULT .. (THE TAPE, THE RULE stay; no finding)");
        FuelTurns x = new FuelTurns();
        due(ruleOf(x, "3"), 0);
        feedText(x, "1+");
        due(x.rule(), -3);
        due(x.rule(), -3);
        due(x.count(4), 2);
        due(x.says(0), 3);
        due(x.status(-1), 0);
        due(x.feed('4', 1), 3);
        due(x.rule(), 0);
        due(x.says(0), 5);
        feedText(x, "9x");
        due(x.rule(), -2);
        due(x.wipe(), 2);
        due(x.says(0), 5);
        due(x.rule(), -1);
        due(x.says(0), 5);
        due(x.count(3), 1);
    }

    /** One object reads one TEXT behind another: nothing of the one before is left. */
    private static void faultLeavesNothing() {
        sentence("rule: a FAULT changes nothing of what is read next");
        String[] wrong = {"(((((", "-----", "1=2&", "1=1?3", "1234567x", "1=2?", "1=1?5:(", "((-12", "1=2&1=1?3:"};
        String[] right = {"(((((7)))))", "-----7", "1=1?7:8", "1=2?8:7", "1234567", "1=2?8:1=2?9:7"};
        int[] told = {7, -7, 7, 7, 1234567, 7};
        for (String fault : wrong) {
            FuelTurns x = new FuelTurns();
            for (int i = 0; i < right.length; i++) {
                due(ruleOf(x, fault) < 0 ? 1 : 0, 1);
                due(ruleOf(x, right[i]), 0);
                due(x.says(0), told[i]);
                x.wipe();
                feedText(x, fault);
                x.rule();
                due(x.says(0), told[i]);
            }
        }
    }

    private static void ruleTakesTheTape() {
        sentence("rule: THE TAPE is THE RULE: 0; THE TAPE is empty then");
        FuelTurns x = new FuelTurns();
        due(ruleOf(x, ONES + "11"), 0);
        due(x.count(4), 0);
        due(x.wipe(), 0);
        due(x.says(0), 40);
        due(x.feed('2', 1), 1);
        due(x.says(0), 40);
        due(x.rule(), 0);
        due(x.says(0), 2);
    }

    private static void drifts() {
        sentence("drift: there is no RULE: 1 if there was, else 0");
        FuelTurns x = new FuelTurns();
        due(x.drift(), 0);
        ruleOf(x, "0");
        due(x.count(3), 1);
        x.feed('5', 1);
        due(x.drift(), 1);
        due(x.drift(), 0);
        due(x.count(3), 0);
        due(x.count(4), 1);
        due(x.runs(1), 1);
        due(x.thing(1), 0);
        due(x.rule(), 0);
        due(x.says(0), 5);
    }

    private static void saysLimits() {
        sentence("says: what THE RULE tells now (0), the MOVE BY THE RULE (1). BEYOND");
        FuelTurns x = new FuelTurns();
        for (int what : new int[] {-1, 2, LEAST, MOST}) {
            due(x.says(what), BEYOND);
        }
        due(x.says(0), 0);
        due(x.says(1), 0);
        ruleOf(x, "30");
        due(x.says(0), 30);
        due(x.says(1), 9);
        due(x.says(2), BEYOND);
        due(x.thing(1), 0);
        due(x.thing(2), 9);
    }

    private static void sums() {
        sentence("S: P { + P, - P }. P: NUMBER, NAME, - P, or ( S )");
        tells("1-2-3", -4);
        tells("1-(2-3)", 2);
        tells("1-2+3", 2);
        tells("1-(2+3)", -4);
        tells("-1-2", -3);
        tells("-(1-2)", 1);
        tells("--3", 3);
        tells("1--3", 4);
        tells("1+-3", -2);
        tells("1---3", -2);
        tells("-(1+2)-(3-4)+5", 3);
        tells("10-(9-(8-(7-(6-(5)))))", 3);
        tells("f", 9);
        tells("-f+f-f", -9);
        tells("(f)-(f)", 0);
        sentence("Ints (far from going round: a TEXT of 60 bytes can't tell more)");
        tells("-(-9999999)" + "+9999999".repeat(6), 69999993);
    }

    private static void conditions() {
        sentence("T: S, one of < = >, S");
        tells("1<2?8:9", 8);
        tells("2<2?8:9", 9);
        tells("3<2?8:9", 9);
        tells("1=2?8:9", 9);
        tells("2=2?8:9", 8);
        tells("3=2?8:9", 9);
        tells("1>2?8:9", 9);
        tells("2>2?8:9", 9);
        tells("3>2?8:9", 8);
        tells("-1<0?8:9", 8);
        tells("0-1>0?8:9", 9);
        tells("1+1=3-1?8+1:9+1", 9);
        sentence("C: T { & T }");
        for (int set = 0; set < 8; set++) {
            String text = (set & 1) + "=1&" + (set >> 1 & 1) + "=1&" + (set >> 2 & 1) + "=1?8:9";
            tells(text, set == 7 ? 8 : 9);
        }
        sentence("R: S, or C ? S : R");
        for (int set = 0; set < 8; set++) {
            String text = (set & 1) + "=1?1:" + (set >> 1 & 1) + "=1?2:" + (set >> 2 & 1) + "=1?3:4";
            tells(text, (set & 1) == 1 ? 1 : (set & 2) == 2 ? 2 : set == 4 ? 3 : 4);
        }
        tells("1=2&1=1?1:1=1&1=1?2:3", 2);
        tells("1=1?1:1=2&1=1?2:3", 1);
    }

    private static int toldBy(FuelTurns x, String text) {
        ruleOf(x, text);
        return x.says(0);
    }

    private static void nameC() {
        sentence("c DANGER of the next DAY at the HEIGHT");
        FuelTurns x = at(2, 9);
        due(toldBy(x, "c"), 0);
        x.warn(0, on(1, 2, 0), 7);
        x.warn(0, on(2, 2, 0), 80);
        x.warn(0, on(1, 3, 0), 900);
        due(toldBy(x, "c"), 7);
        x.move(1);
        due(toldBy(x, "c"), 900);
        x.move(-1);
        x.days(1);
        due(toldBy(x, "c"), 80);
        x.days(1);
        due(toldBy(x, "c"), 0);
        FuelTurns y = onDay(998);
        y.warn(1, on(999, 0, 0), 1000000);
        y.warn(1, on(999, 0, 0), 1000000);
        due(toldBy(y, "c"), 1000000);
        y.days(1);
        due(toldBy(y, "c"), 0);
    }

    private static void nameD() {
        sentence("d how many DAYS till the next DAY for which there is an OPEN WARNING (1 at least; 999 without one)");
        FuelTurns x = new FuelTurns();
        due(toldBy(x, "d"), 999);
        x.warn(0, on(999, 0, 0), 0);
        due(toldBy(x, "d"), 999);
        x.warn(0, on(998, 0, 0), 0);
        due(toldBy(x, "d"), 998);
        x.warn(0, on(3, 0, 0), 0);
        x.warn(0, on(5, 0, 0), 0);
        due(toldBy(x, "d"), 3);
        x.days(2);
        due(toldBy(x, "d"), 1);
        x.days(1);
        due(toldBy(x, "d"), 2);
        x.days(2);
        due(toldBy(x, "d"), 993);
        due(toldBy(waits(x, 998), "d"), 1);
        due(toldBy(waits(x, 999), "d"), 999);
    }

    private static void otherNames() {
        sentence("f FUEL, h HEIGHT, n how many are OPEN, t TODAY");
        FuelTurns x = at(-12, 0);
        due(toldBy(x, "f"), 0);
        due(toldBy(x, "h"), -12);
        due(toldBy(x, "n"), 0);
        due(toldBy(x, "t"), 0);
        FuelTurns y = at(12, 60);
        for (int i = 0; i < 12; i++) {
            y.warn(0, on(1 + i, 0, 0), 0);
        }
        due(toldBy(y, "f"), 60);
        y.plan(KEEP, 50);
        due(toldBy(y, "f"), 60);
        due(toldBy(y, "h"), 12);
        due(toldBy(y, "n"), 12);
        y.days(1);
        due(toldBy(y, "n"), 11);
        due(toldBy(y, "t"), 1);
        waits(y, 999);
        due(toldBy(y, "n"), 0);
        due(toldBy(y, "t"), 999);
        due(toldBy(y, "t-h-f"), 927);
        sentence("What THE RULE tells now");
        FuelTurns z = new FuelTurns();
        ruleOf(z, "t+f");
        due(z.says(0), 9);
        z.days(1);
        due(z.says(0), 10);
        z.plan(FUEL, 0);
        due(z.says(0), 1);
    }

    private static int movesBy(FuelTurns x, String text) {
        ruleOf(x, text);
        return x.says(1);
    }

    private static void heldWithin() {
        sentence("the MOVE that it tells, held within -24 to 24");
        for (int side = -1; side <= 1; side += 2) {
            String sign = side < 0 ? "-" : "";
            due(movesBy(at(-12 * side, 60), sign + "23"), 23 * side);
            due(movesBy(at(-12 * side, 60), sign + "24"), 24 * side);
            due(movesBy(at(-12 * side, 60), sign + "25"), 24 * side);
            due(movesBy(at(-12 * side, 60), sign + "9999999"), 24 * side);
            due(movesBy(at(-12 * side, 60), sign + "9999999" + (side < 0 ? "-" : "+") + "9999999"), 24 * side);
        }
        due(movesBy(at(3, 60), "0"), 0);
    }

    private static void nearestThatCanBe() {
        sentence("if it CAN'T be, the MOVE nearest to it in the same direction that CAN be");
        for (int side = -1; side <= 1; side += 2) {
            String sign = side < 0 ? "-" : "";
            due(movesBy(at(0, 60), sign + "12"), 12 * side);
            due(movesBy(at(0, 60), sign + "13"), 12 * side);
            due(movesBy(at(11 * side, 60), sign + "5"), side);
            due(movesBy(at(12 * side, 60), sign + "1"), 0);
            due(movesBy(at(12 * side, 60), sign + "24"), 0);
            due(movesBy(at(-12 * side, 23), sign + "24"), 23 * side);
            due(movesBy(at(-12 * side, 1), sign + "24"), side);
            due(movesBy(at(0, 0), sign + "1"), 0);
            FuelTurns x = at(0, 20);
            x.plan(PRICE, 9);
            due(movesBy(x, sign + "3"), 2 * side);
            x.plan(KEEP, 2);
            due(movesBy(x, sign + "3"), 2 * side);
            x.plan(KEEP, 3);
            due(movesBy(x, sign + "3"), side);
            x.plan(KEEP, 12);
            due(movesBy(x, sign + "3"), 0);
            x.plan(KEEP, 60);
            due(movesBy(x, sign + "3"), 0);
            due(x.runs(1), 1);
            due(x.thing(1), 0);
            due(x.thing(2), 20);
        }
    }
}
