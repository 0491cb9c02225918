/** Each promise of the document by hand: ordinary inputs, the edges that it names, and wrong inputs. */
public final class PromisesTest extends Given {
    private static int promise = 0;

    private PromisesTest() {
    }

    public static void main(String[] args) {
        for (promise = 1; promise <= 41; promise++) {
            test(promise);
        }
        Check.end();
    }

    private static void test(int which) {
        switch (which) {
            case 1: newObject(); break;
            case 2: plan(); break;
            case 3: move(); break;
            case 4: may(); break;
            case 5: days(); break;
            case 6: runs(); break;
            case 7: thing(); break;
            case 8: warn(); break;
            case 9: of(); break;
            case 10: as(); break;
            case 11: struck(); break;
            case 12: look(); break;
            case 13: think(); break;
            case 14: danger(); break;
            case 15: safest(); break;
            case 16: open(); break;
            case 17: feed(); break;
            case 18: wipe(); break;
            case 19: rule(); break;
            case 20: drift(); break;
            case 21: says(); break;
            case 22: best(); break;
            case 23: turn(); break;
            case 24: rest(); break;
            case 25: home(); break;
            case 26: know(); break;
            case 27: life(); break;
            case 28: lives(); break;
            case 29: rests(); break;
            case 30: both(); break;
            case 31: swarm(); break;
            case 32: sheet(); break;
            case 33: write(); break;
            case 34: copy(); break;
            case 35: turns(); break;
            case 36: read(); break;
            case 37: image(); break;
            case 38: undo(); break;
            case 39: tear(); break;
            case 40: count(); break;
            default: status();
        }
    }

    private static void due(String what, long got, long want) {
        Check.due("promise " + promise + ": " + what, got, want);
    }

    private static FuelTurns ruled(String text) {
        FuelTurns x = new FuelTurns();
        due("rule " + text, ruleOf(x, text), 0);
        return x;
    }

    private static void newObject() {
        FuelTurns x = new FuelTurns();
        for (int what = 0; what < 5; what++) {
            due("thing " + what, x.thing(what), what == 2 ? 9 : 0);
        }
        int[] counts = {0, 0, 0, 0, 0, -1};
        for (int what = 0; what < 6; what++) {
            due("count " + what, x.count(what), counts[what]);
        }
        due("no findings", x.status(-1), 0);
        due("no image", x.undo(), NONE);
        for (int s = 0; s < 4; s++) {
            due("sheet " + s, x.read(s), MISSING);
        }
        FuelTurns y = new FuelTurns();
        y.days(3);
        due("objects are apart", x.thing(0), 0);
    }

    private static void plan() {
        int[] first = {1, 100, 10, 1000000, 0, 9};
        int[] least = {1, 0, 0, 0, 0, 0};
        int[] most = {9, 9999, 999, 99999999, 60, 60};
        FuelTurns x = new FuelTurns();
        for (int what = 0; what < 6; what++) {
            due("too little", x.plan(what, least[what] - 1), BEYOND);
            due("too much", x.plan(what, most[what] + 1), BEYOND);
            due("first", x.plan(what, least[what]), first[what]);
            due("least", x.plan(what, most[what]), least[what]);
            due("most", x.plan(what, first[what]), most[what]);
        }
        due("what -1", x.plan(-1, 1), BEYOND);
        due("what 6", x.plan(6, 1), BEYOND);
        due("what far", x.plan(Integer.MIN_VALUE, 1), BEYOND);
        x.plan(5, 33);
        due("FUEL is the thing's", x.thing(2), 33);
    }

    private static void move() {
        FuelTurns x = new FuelTurns();
        due("up", x.move(3), 3);
        due("fuel", x.thing(2), 6);
        due("down", x.move(-4), -1);
        due("fuel", x.thing(2), 2);
        due("none", x.move(0), -1);
        due("no fuel", x.move(3), STATE);
        due("all fuel", x.move(2), 1);
        due("25", x.move(25), BEYOND);
        due("-25", x.move(-25), BEYOND);
        due("empty", x.move(-1), STATE);
        due("empty, none", x.move(0), 1);
        x.plan(5, 60);
        due("above 12", x.move(12), STATE);
        due("to 12", x.move(11), 12);
        due("24 down", x.move(-24), -12);
        due("below -12", x.move(-1), STATE);
        due("fuel stays", x.thing(2), 60 - 11 - 24);
        x.plan(0, 3);
        x.plan(4, 20);
        due("into KEEP", x.move(2), STATE);
        due("KEEP", x.move(1), -11);
        x.plan(4, 40);
        due("below KEEP", x.move(0), -11);
        due("status", x.status(4), 5);
    }

    private static void may() {
        FuelTurns x = new FuelTurns();
        due("9", x.may(9), 1);
        due("10", x.may(10), 0);
        due("-9", x.may(-9), 1);
        due("24", x.may(24), 0);
        due("25", x.may(25), BEYOND);
        due("-25", x.may(-25), BEYOND);
        due("least", x.may(Integer.MIN_VALUE), BEYOND);
        x.plan(5, 60);
        due("12", x.may(12), 1);
        due("13", x.may(13), 0);
        x.plan(4, 60);
        due("kept", x.may(1), 0);
        due("0", x.may(0), 1);
        due("nothing moved", x.thing(1), 0);
        due("status", x.status(-1), 3);
    }

    private static void days() {
        FuelTurns x = new FuelTurns();
        x.warn(0, on(2, 0, 3), 400000);
        x.move(2);
        due("one", x.days(1), 1);
        due("score", x.thing(3), 80);
        due("risk", x.thing(4), 0);
        due("next", x.days(1), 2);
        due("risk", x.thing(4), 200000);
        x.plan(2, 60);
        x.days(1);
        due("0 at least", x.thing(3), 160);
        due("0", x.days(0), BEYOND);
        due("101", x.days(101), BEYOND);
        for (int i = 0; i < 9; i++) {
            due("100", x.days(100), 103 + 100 * i);
        }
        due("above 999", x.days(97), STATE);
        due("to 999", x.days(96), 999);
        due("behind the last", x.days(1), STATE);
        due("BEYOND first", x.days(0), BEYOND);
        due("fuel", x.thing(2), 7);
    }

    private static void runs() {
        FuelTurns x = new FuelTurns();
        due("no rule", x.runs(3), 3);
        due("stays", x.thing(1), 0);
        ruleOf(x, "1");
        due("with one", x.runs(2), 5);
        due("moved", x.thing(1), 2);
        due("fuel", x.thing(2), 7);
        due("score", x.thing(3), 300 + 90 + 80);
        x.warn(0, on(6, 3, 0), 1000000);
        x.runs(1);
        due("danger where it is then", x.thing(4), 1000000);
        due("0", x.runs(0), BEYOND);
        due("101", x.runs(101), BEYOND);
        due("100", x.runs(100), 106);
        due("fuel ran out", x.thing(1), 9);
        for (int i = 0; i < 8; i++) {
            x.days(100);
        }
        due("above 999", x.runs(94), STATE);
        due("to 999", x.runs(93), 999);
        due("behind", x.runs(1), STATE);
    }

    private static void thing() {
        FuelTurns x = new FuelTurns();
        x.warn(0, on(1, -2, 0), 77);
        x.move(-2);
        x.days(1);
        long[] want = {1, -2, 7, 80, 77};
        for (int what = 0; what < 5; what++) {
            due("what " + what, x.thing(what), want[what]);
        }
        due("what 5", x.thing(5), BEYOND);
        due("what -1", x.thing(-1), BEYOND);
        x.plan(1, 9999);
        x.plan(2, 0);
        for (int i = 0; i < 9; i++) {
            x.days(100);
        }
        due("score", x.thing(3), 80 + 900L * 9999);
    }

    private static void warn() {
        FuelTurns x = new FuelTurns();
        due("kind -1", x.warn(-1, on(1, 0, 0), 5), BEYOND);
        due("kind 6", x.warn(6, on(1, 0, 0), 5), BEYOND);
        due("today", x.warn(0, on(0, 0, 0), 5), BEYOND);
        due("day 1000", x.warn(0, on(1000, 0, 0), 5), BEYOND);
        due("at 13", x.warn(0, on(1, 13, 0), 5), BEYOND);
        due("width 10", x.warn(0, on(1, 0, 10), 5), BEYOND);
        due("of below 0", x.warn(0, -1, 5), BEYOND);
        due("of least", x.warn(0, Integer.MIN_VALUE, 5), BEYOND);
        due("of most", x.warn(0, Integer.MAX_VALUE, 5), BEYOND);
        due("chance -1", x.warn(0, on(1, 0, 0), -1), BEYOND);
        due("chance above", x.warn(0, on(1, 0, 0), 1000001), BEYOND);
        due("none yet", x.count(0), 0);
        due("lowest", x.warn(0, on(1, -12, 0), 0), 0);
        due("highest", x.warn(5, on(999, 12, 9), 1000000), 1);
        x.days(1);
        due("not later", x.warn(0, on(1, 0, 0), 5), BEYOND);
        for (int i = 2; i < 12; i++) {
            due("number " + i, x.warn(i % 6, on(2, 0, 0), 5), i);
        }
        due("BEYOND ahead of FULL", x.warn(0, on(1, 0, 0), 5), BEYOND);
        due("full", x.warn(0, on(2, 0, 0), 5), FULL);
        due("twelve", x.count(0), 12);
    }

    private static void of() {
        FuelTurns x = new FuelTurns();
        x.warn(3, on(2, -5, 7), 123456);
        x.look(0, 50, true);
        int[] want = {3, 2, -5, 7, 123456, 1, 1};
        for (int what = 0; what < 7; what++) {
            due("what " + what, x.of(0, what), want[what]);
        }
        x.days(1);
        due("open", x.of(0, 6), 1);
        x.days(1);
        due("not open", x.of(0, 6), 0);
        due("what 7", x.of(0, 7), BEYOND);
        due("what -1", x.of(0, -1), BEYOND);
        due("warning 1", x.of(1, 0), BEYOND);
        due("warning -1", x.of(-1, 0), BEYOND);
    }

    private static void as() {
        FuelTurns x = new FuelTurns();
        int[] sets = {1, 3, 5, 9, 21, 35};
        for (int kind = 0; kind < 6; kind++) {
            x.warn(kind, on(1, 0, 0), 100 + kind);
            for (int asked = 0; asked < 6; asked++) {
                boolean is = (sets[kind] >> asked & 1) == 1;
                due(kind + " as " + asked, x.as(kind, asked), is ? 100 + kind : KIND);
            }
        }
        due("no kind", x.as(0, 6), BEYOND);
        due("no kind", x.as(0, -1), BEYOND);
        due("no warning", x.as(6, 0), BEYOND);
        due("no warning", x.as(-1, 0), BEYOND);
        due("status", x.status(2), 36 - 13);
    }

    private static void struck() {
        FuelTurns x = new FuelTurns();
        for (int kind = 0; kind < 6; kind++) {
            x.warn(kind, on(1, 2, 3), 900001);
        }
        // By how far: 900001 times 4, 3, 2, 1 by 4: 900001, 675000, 450000, 225000.
        int[][] want = {
            {900001, 675000, 450000, 225000, 0, 0},
            {1000000, 1000000, 675000, 337500, 0, 0},
            {900001, 450000, 225000, 0, 0, 0},
            {900001, 900001, 675000, 675000, 450000, 450000, 225000, 225000, 0},
            {450000, 225000, 112500, 0, 0, 0},
            {250000, 250000, 168750, 84375, 0, 0},
        };
        for (int kind = 0; kind < 6; kind++) {
            for (int far = 0; far < want[kind].length; far++) {
                due(kind + " " + far + " up", x.struck(kind, 2 + far), want[kind][far]);
                due(kind + " " + far + " down", x.struck(kind, 2 - far), want[kind][far]);
            }
        }
        due("at 13", x.struck(0, 13), BEYOND);
        due("at -13", x.struck(0, -13), BEYOND);
        due("at 12", x.struck(0, 12), 0);
        due("at -12", x.struck(0, -12), 0);
        due("none", x.struck(6, 0), BEYOND);
        due("none", x.struck(-1, 0), BEYOND);
        x.warn(0, on(1, 0, 9), 1000000);
        due("wide", x.struck(6, 9), 100000);
        x.warn(0, on(1, 0, 0), 7);
        due("narrow", x.struck(7, 0), 7);
        due("beside", x.struck(7, 1), 0);
    }

    private static void look() {
        FuelTurns x = new FuelTurns();
        x.warn(0, on(2, 0, 0), 400000);
        due("49", x.look(0, 49, true), BEYOND);
        due("101", x.look(0, 101, true), BEYOND);
        due("no such", x.look(1, 60, true), BEYOND);
        due("no such", x.look(-1, 60, true), BEYOND);
        due("none counted", x.of(0, 5), 0);
        due("50", x.look(0, 50, true), 400000);
        due("real", x.look(0, 90, true), 857142);
        due("not real", x.look(0, 60, false), 799998);
        due("looks", x.of(0, 5), 3);
        due("sure", x.look(0, 100, false), 0);
        due("can't be", x.look(0, 100, true), STATE);
        due("looks", x.of(0, 5), 4);
        due("sure", x.look(0, 100, false), 0);
        x.warn(0, on(2, 0, 0), 1000000);
        due("can't be", x.look(1, 100, false), STATE);
        due("sure", x.look(1, 100, true), 1000000);
        x.days(1);
        due("open", x.look(0, 70, true), 0);
        x.days(1);
        due("not open", x.look(0, 70, true), STATE);
        due("BEYOND first", x.look(0, 49, true), BEYOND);
    }

    private static void think() {
        FuelTurns x = new FuelTurns();
        x.warn(0, on(1, 0, 0), 400000);
        due("real", x.think(0, 90, true), 857142);
        due("not real", x.think(0, 90, false), 68965);
        due("stays", x.of(0, 4), 400000);
        due("no look", x.of(0, 5), 0);
        due("49", x.think(0, 49, true), BEYOND);
        due("101", x.think(0, 101, true), BEYOND);
        due("no such", x.think(1, 60, true), BEYOND);
        x.warn(0, on(1, 0, 0), 0);
        due("can't be", x.think(1, 100, true), STATE);
        due("can be", x.think(1, 99, true), 0);
        x.days(1);
        due("not open", x.think(0, 90, true), STATE);
    }

    private static void danger() {
        FuelTurns x = new FuelTurns();
        x.warn(0, on(5, 0, 1), 300000);
        x.warn(1, on(5, 0, 0), 500000);
        x.warn(0, on(6, 0, 0), 10);
        due("together", x.danger(5, 0), 1000000);
        due("one", x.danger(5, 1), 150000);
        due("other day", x.danger(6, 0), 10);
        due("none", x.danger(7, 0), 0);
        x.days(5);
        due("past", x.danger(5, 1), 150000);
        due("day -1", x.danger(-1, 0), BEYOND);
        due("day 1000", x.danger(1000, 0), BEYOND);
        due("day 0", x.danger(0, 12), 0);
        due("day 999", x.danger(999, -12), 0);
        due("at 13", x.danger(5, 13), BEYOND);
        due("at -13", x.danger(5, -13), BEYOND);
    }

    private static void safest() {
        FuelTurns x = new FuelTurns();
        x.warn(0, on(3, 0, 2), 300000);
        due("two", x.safest(3), -3);
        due("no danger", x.safest(4), 0);
        x.move(1);
        due("nearest", x.safest(3), 3);
        x.warn(0, on(5, 0, 9), 1000000);
        x.warn(0, on(5, -12, 9), 1);
        due("far", x.safest(5), 10);
        x.warn(0, on(6, 12, 9), 1000000);
        x.warn(0, on(6, -12, 9), 1000000);
        x.warn(0, on(6, 0, 1), 1000000);
        due("least, though not 0", x.safest(6), 2);
        due("0", x.safest(0), 1);
        due("999", x.safest(999), 1);
        due("-1", x.safest(-1), BEYOND);
        due("1000", x.safest(1000), BEYOND);
        due("stays", x.thing(1), 1);
    }

    private static void open() {
        FuelTurns x = new FuelTurns();
        due("none", x.open(), 0);
        x.warn(0, on(2, 0, 0), 5);
        x.warn(0, on(1, 0, 0), 5);
        x.warn(0, on(3, 0, 0), 0);
        due("all", x.open(), 7);
        x.days(1);
        due("less", x.open(), 5);
        x.days(1);
        due("one", x.open(), 4);
        x.days(1);
        due("none", x.open(), 0);
        for (int i = 3; i < 12; i++) {
            x.warn(0, on(9, 0, 0), 5);
        }
        due("later ones", x.open(), 4095 - 7);
    }

    private static void feed() {
        FuelTurns x = new FuelTurns();
        due("0", x.feed(49, 0), BEYOND);
        due("5", x.feed(49, 5), BEYOND);
        due("two of four", x.feed('x' << 24 | 'y' << 16 | '1' << 8 | '2', 2), 2);
        x.rule();
        due("highest first", x.says(0), 12);
        for (int i = 1; i <= 14; i++) {
            due("four", x.feed(0x2b312b31, 4), 4 * i);
        }
        due("three", x.feed(0x2b312b, 3), 59);
        due("too many", x.feed(0x2b31, 2), FULL);
        due("one", x.feed('1', 1), 60);
        due("full", x.feed('1', 1), FULL);
        due("BEYOND first", x.feed('1', 5), BEYOND);
        due("sixty", x.count(4), 60);
    }

    private static void wipe() {
        FuelTurns x = new FuelTurns();
        due("none", x.wipe(), 0);
        x.feed('1', 1);
        x.feed(0, 2);
        due("three", x.wipe(), 3);
        due("none", x.wipe(), 0);
        due("count", x.count(4), 0);
        due("from the front", x.feed('7', 1), 1);
        due("rule", x.rule(), 0);
        due("says", x.says(0), 7);
    }

    private static void rule() {
        String[] right = {"1", "1234567", "0000000", "-1", "--1", "-----1", "(((((1)))))", "-(-(-h))", "1+-----1",
            "c", "d", "f", "h", "n", "t", "1-2-3", "1<2?3:4", "1<2&3=4&5>6?7:1=2?8:9", "(1)-(2)", "-(1)--(2)",
            "(((((1)))))+(((((1)))))", "-----1-----1", "(-(-(1+2)+3)+4)", "1--2", "----(1)"};
        FuelTurns x = new FuelTurns();
        for (String text : right) {
            due(text, ruleOf(x, text), 0);
            due("tape", x.count(4), 0);
        }
        String[] wrong = {"", "+", "x", ")", "1)", "1+", "(", "(1", "(1+", "12345678", "------1", "((((((1", "-----(1)",
            "1 ", "1?", "1<", "1<2", "1<2?", "1<2?3", "1<2?3:", "1<2<3", "1<2?3<4", "1<2&3?", "1<2&3:4", "(1<2)",
            "1&", "1<2:", "1<2?3?4", "1:", "cc", "c1", "1c", "C", "1<2?3:4<5", "1<2?3:4<5?6:7:", "()", "(((((-", "1*2",
            "1234567+12345678", "(1234567(", "-(-(-(", "1<2?3:4&5", "1=2&", "1==2"};
        int[] places = {0, 0, 0, 0, 1, 2, 1, 2, 3, 7, 5, 5, 5,
            1, 1, 2, 3, 4, 5, 6, 3, 5, 5, 5, 2,
            1, 3, 5, 1, 1, 1, 1, 0, 9, 13, 1, 5, 1,
            15, 8, 5, 7, 4, 2};
        for (int i = 0; i < wrong.length; i++) {
            due(wrong[i], ruleOf(x, wrong[i]), -1 - places[i]);
            due("tape stays", x.count(4), wrong[i].length());
            due("grammar", Grammar.fault(wrong[i]), places[i]);
        }
        x.wipe();
        x.feed(0xb1, 1);
        due("a high byte", x.rule(), -1);
        due("no finding", x.status(-1), 0);
        due("the rule stays", x.count(3), 1);
        due("what it was", x.says(0), 1);
    }

    private static void drift() {
        FuelTurns x = new FuelTurns();
        due("none", x.drift(), 0);
        ruleOf(x, "2");
        x.feed('1', 1);
        due("one", x.drift(), 1);
        due("none", x.drift(), 0);
        due("count", x.count(3), 0);
        due("tells nothing", x.says(0), 0);
        due("tape stays", x.count(4), 1);
    }

    private static void tells(FuelTurns x, String text, int told, int moves) {
        due(text, ruleOf(x, text), 0);
        due(text + " tells", x.says(0), told);
        due(text + " moves", x.says(1), moves);
    }

    private static void says() {
        FuelTurns x = new FuelTurns();
        due("no rule", x.says(0), 0);
        due("no rule", x.says(1), 0);
        due("2", x.says(2), BEYOND);
        due("-1", x.says(-1), BEYOND);
        tells(x, "d", 999, 9);
        x.warn(0, on(4, 2, 0), 500000);
        x.warn(0, on(3, 2, 1), 600000);
        x.warn(0, on(2, 9, 0), 600000);
        x.warn(0, on(9, 9, 0), 600000);
        tells(x, "n", 4, 4);
        tells(x, "d", 2, 2);
        x.move(2);
        x.days(2);
        tells(x, "c", 600000, 7);
        tells(x, "d", 1, 1);
        tells(x, "f", 7, 7);
        tells(x, "h", 2, 2);
        tells(x, "n", 3, 3);
        tells(x, "t", 2, 2);
        tells(x, "h-n-n-t-f", -13, -7);
        tells(x, "1-2-3", -4, -4);
        tells(x, "1-(2-3)", 2, 2);
        tells(x, "-1+2", 1, 1);
        tells(x, "-(1+2)", -3, -3);
        tells(x, "2--1", 3, 3);
        tells(x, "---3-(-1)", -2, -2);
        tells(x, "9999999+9999999", 19999998, 7);
        tells(x, "-9999999-9999999", -19999998, -7);
        tells(x, "1<1?5:1=1?6:7", 6, 6);
        tells(x, "2>1?5:1=1?6:7", 5, 5);
        tells(x, "1>1?5:1=2?6:1+1", 2, 2);
        tells(x, "1<2&2<3&3<4?1:2", 1, 1);
        tells(x, "1<2&2<2&3<4?1:2", 2, 2);
        tells(x, "2<1&2<3?1:3<4?4:5", 4, 4);
        x.plan(0, 3);
        tells(x, "24", 24, 2);
        x.plan(4, 5);
        tells(x, "-3", -3, 0);
        x.plan(5, 60);
        tells(x, "24", 24, 10);
        tells(x, "-24", -24, -14);
        due("nothing moved", x.thing(1), 2);
        x.plan(0, 1);
        x.move(10);
        tells(x, "-25", -25, -24);
    }

    private static void best() {
        FuelTurns x = new FuelTurns();
        for (int n = 1; n <= 8; n++) {
            due("nothing", x.best(n, 0), 100 * n);
            due("fuel", x.best(n, 1), 0);
        }
        due("0", x.best(0, 0), BEYOND);
        due("9", x.best(9, 0), BEYOND);
        due("what 4", x.best(1, 4), BEYOND);
        due("what -1", x.best(1, -1), BEYOND);
        // At 0 for 2 DAYS, once 2 down and back: 100 + 80 + 100; down ahead of up.
        x.plan(0, 2);
        x.warn(0, on(2, 0, 1), 1000);
        due("worth", x.best(3, 0), 280);
        due("fuel", x.best(3, 1), 8);
        due("days", x.best(3, 2), 2);
        due("first", x.best(3, 3), 0);
        // FUEL for two steps alone: it stays there.
        x.plan(4, 4);
        due("kept", x.best(3, 0), 260);
        due("fuel", x.best(3, 1), 4);
        due("days", x.best(3, 2), 1);
        // FUEL for one step: HARM 1000000 times 500 by 1000000 less.
        x.plan(4, 6);
        due("one step", x.best(2, 0), 100 + 90 - 500);
        x.plan(3, 20000);
        // HARM 20, 10 or 0 against 10 less a step: all are worth 180, so that FUEL tells.
        x.plan(4, 0);
        due("no less fuel", x.best(2, 0), 180);
        due("no less fuel", x.best(2, 1), 0);
        x.plan(3, 99999999);
        due("cut", x.rest(2), 200 - 99999);
        FuelTurns y = new FuelTurns();
        for (int i = 0; i < 9; i++) {
            y.days(100);
        }
        y.days(98);
        y.warn(0, on(999, 0, 0), 1000000);
        due("above 999", y.best(8, 0), 790);
        due("back", y.best(8, 1), 2);
        bestAtTheEdges();
    }

    private static void bestAtTheEdges() {
        FuelTurns x = new FuelTurns();
        x.warn(0, on(1, 0, 0), 1000000);
        x.plan(4, 10);
        due("less than KEEP", x.best(1, 1), 0);
        due("struck", x.best(1, 0), 100 - 1000000);
        // All but one end is in DANGER: 24 steps there, and 24 back on the next DAY.
        for (int side = -1; side <= 1; side += 2) {
            FuelTurns y = new FuelTurns();
            y.plan(5, 60);
            y.move(12 * side);
            y.plan(5, 60);
            for (int at = -9; at <= 12; at += 5) {
                y.warn(0, on(1, side * at, 2), 300000);
            }
            y.warn(0, on(2, -12 * side, 9), 1000000);
            y.warn(0, on(2, -3 * side, 9), 1000000);
            y.warn(0, on(2, 6 * side, 5), 1000000);
            y.plan(1, 0);
            due("there", y.turn(2, 0), -24 * side);
            due("back", y.turn(2, 1), 24 * side);
            due("fuel", y.best(2, 1), 48);
            due("safe", y.best(2, 0), 0);
        }
        // Each DAY one end alone is free: 12, 24 and 24 steps take all FUEL that there can be.
        FuelTurns z = new FuelTurns();
        z.plan(5, 60);
        z.plan(1, 0);
        int[] moves = {-12, 24, -24, 0, 0, 0, 0, 0};
        for (int day = 1; day <= 3; day++) {
            int side = day == 2 ? -1 : 1;
            z.warn(0, on(day, -2 * side, 9), 1000000);
            z.warn(0, on(day, 10 * side, 2), 1000000);
        }
        due("safe", z.best(8, 0), 0);
        due("steps", z.best(8, 1), 60);
        due("days", z.best(8, 2), 3);
        for (int i = 0; i < 8; i++) {
            due("move " + i, z.turn(8, i), moves[i]);
        }
        z.plan(5, 59);
        Check.holds("promise 22: one less is too little", z.best(8, 0) < 0);
    }

    private static void turn() {
        FuelTurns x = new FuelTurns();
        x.warn(0, on(2, 0, 1), 1000);
        int[] want = {0, -2, 2, 0};
        for (int i = 0; i < 4; i++) {
            due("day " + i, x.turn(4, i), want[i]);
        }
        due("i 4", x.turn(4, 4), BEYOND);
        due("i -1", x.turn(4, -1), BEYOND);
        due("n 0", x.turn(0, 0), BEYOND);
        due("n 9", x.turn(9, 0), BEYOND);
        due("n least", x.turn(Integer.MIN_VALUE, 0), BEYOND);
        due("last alone", x.turn(2, 1), -2);
        due("one day", x.turn(1, 0), 0);
        due("8 days", x.turn(8, 7), 0);
        due("no move", x.thing(1), 0);
        // Without USE: the MOVE waits, as fewer steps come first by DAYS.
        FuelTurns y = new FuelTurns();
        y.plan(1, 0);
        y.warn(0, on(3, 0, 0), 1000000);
        int[] late = {0, 0, -1, 0, 0, 0, 0, 0};
        for (int i = 0; i < 8; i++) {
            due("late " + i, y.turn(8, i), late[i]);
        }
    }

    private static void rest() {
        FuelTurns x = new FuelTurns();
        x.warn(0, on(2, 3, 0), 999999);
        due("1", x.rest(1), 100);
        due("8", x.rest(8), 800);
        x.move(3);
        due("harm", x.rest(2), 140 - 999999);
        x.plan(3, 1);
        due("cut", x.rest(2), 140);
        x.plan(1, 20);
        due("0 at least", x.rest(8), 0);
        due("0", x.rest(0), BEYOND);
        due("9", x.rest(9), BEYOND);
        due("today stays", x.thing(0), 0);
    }

    private static void home() {
        FuelTurns x = new FuelTurns();
        due("there", x.home(0, 0), STATE);
        due("BEYOND first", x.home(-1, 0), BEYOND);
        due("danger", x.home(1000001, 0), BEYOND);
        due("more", x.home(0, 21), BEYOND);
        due("more", x.home(0, -1), BEYOND);
        x.move(-2);
        due("at once", x.home(0, 20), 1);
        x.warn(0, on(1, 0, 0), 500);
        x.warn(0, on(4, 1, 1), 1000);
        due("not above", x.home(500, 20), 1);
        due("above", x.home(499, 0), 2);
        due("two days", x.home(499, 1), 2);
        due("three days", x.home(499, 2), 5);
        x.warn(0, on(24, 0, 0), 500);
        x.warn(0, on(40, 0, 0), 500);
        due("of 19", x.home(499, 18), 5);
        due("of 20", x.home(499, 19), NONE);
        due("of 15", x.home(499, 15), 5);
        x.warn(0, on(20, 0, 0), 500);
        x.warn(0, on(12, 0, 0), 500);
        x.warn(0, on(30, 0, 0), 500);
        due("of 9", x.home(499, 8), 31);
        due("of 10", x.home(499, 9), NONE);
        x.plan(0, 4);
        due("no fuel", x.home(1000000, 0), NONE);
        x.plan(4, 0);
        x.plan(5, 8);
        due("fuel", x.home(1000000, 0), 1);
        x.plan(4, 1);
        due("kept", x.home(1000000, 0), NONE);
        FuelTurns y = new FuelTurns();
        y.move(1);
        for (int i = 0; i < 10; i++) {
            y.days(i == 9 ? 99 : 100);
        }
        due("on the last day", y.home(0, 20), 1);
        FuelTurns z = new FuelTurns();
        z.move(1);
        for (int day = 4; day <= 40; day += 4) {
            z.warn(0, on(day, 0, 0), 9);
        }
        due("the 41st", z.home(0, 3), NONE);
        due("the 1st", z.home(0, 2), 1);
        z.days(1);
        due("the 40th", z.home(0, 3), 40);
    }

    private static void know() {
        FuelTurns x = new FuelTurns();
        x.plan(3, 1000);
        x.plan(2, 100);
        x.warn(0, on(1, 0, 0), 50000);
        // Now: stay, 100 - 50. Real by 100: down, 0; else stay, 100: 0.05 * 0 + 0.95 * 100.
        due("best", x.best(1, 0), 50);
        due("sure", x.know(0, 100, 1), 45);
        due("nothing", x.know(0, 50, 1), 0);
        // Sureness 90: m 140000; c 321428, -221, so down, 0; c 5813: 95; 0.86 * 95 = 81.7.
        due("90", x.know(0, 90, 1), 31);
        due("n 0", x.know(0, 90, 0), BEYOND);
        due("n 9", x.know(0, 90, 9), BEYOND);
        due("49", x.know(0, 49, 1), BEYOND);
        due("101", x.know(0, 101, 1), BEYOND);
        due("no such", x.know(1, 90, 1), BEYOND);
        due("no such", x.know(-1, 90, 1), BEYOND);
        due("no look", x.of(0, 5), 0);
        due("chance stays", x.of(0, 4), 50000);
        x.warn(0, on(1, 5, 0), 0);
        due("can't be", x.know(1, 100, 1), 0);
        x.days(1);
        due("not open", x.know(0, 90, 1), STATE);
        due("BEYOND first", x.know(0, 49, 1), BEYOND);
        // Worths below 0 are cut towards 0: -999 now, 0.5 * -998 + 0.5 * -1000 or so.
        FuelTurns y = new FuelTurns();
        y.plan(5, 0);
        y.plan(1, 0);
        y.plan(3, 3);
        y.warn(0, on(1, 0, 0), 500000);
        due("now", y.best(1, 0), -1);
        due("cut", y.know(0, 100, 1), 0);
        y.plan(3, 2);
        due("now", y.best(1, 0), -1);
        due("whole", y.know(0, 100, 1), 0);
        y.plan(3, 1);
        due("now", y.best(1, 0), 0);
        due("cut towards 0", y.know(0, 100, 1), 0);
    }

    private static void life() {
        FuelTurns x = new FuelTurns();
        due("0", x.life(7, 0), BEYOND);
        due("101", x.life(7, 101), BEYOND);
        due("all", x.life(7, 100), 100);
        x.warn(0, on(3, 0, 0), 1000000);
        for (int lots = -3; lots < 4; lots++) {
            due("struck", x.life(lots, 100), 3);
        }
        due("ahead of it", x.life(7, 2), 2);
        ruleOf(x, "d=1?1:0");
        due("out of the way", x.life(7, 100), 100);
        due("as if", x.thing(0) + x.thing(1), 0);
        due("fuel", x.thing(2), 9);
        // L 0 becomes 12345, whose highest 16 bits are 0: struck by 100 millionths, not by 99.
        FuelTurns y = new FuelTurns();
        y.warn(0, on(1, 0, 0), 100);
        due("just", y.life(0, 9), 1);
        due("other lots", y.life(1, 9), 9);
        FuelTurns z = new FuelTurns();
        z.warn(0, on(1, 0, 0), 99);
        due("just not", z.life(0, 9), 9);
        // L -1: -1103515245 + 12345 is 0xbe39f4cc + .. : bits 16 to 31 without a sign.
        int l = -1103515245 + 12345;
        int rest = (l >>> 16) % 10000;
        FuelTurns v = new FuelTurns();
        v.warn(0, on(1, 0, 0), 100 * rest);
        due("not less", v.life(-1, 1), 1);
        due("not less", v.lives(-1, 1, 1), 1);
        v.warn(0, on(1, 0, 0), 100);
        due("less", v.lives(-1, 1, 1), 0);
        FuelTurns w = new FuelTurns();
        for (int i = 0; i < 10; i++) {
            w.days(i == 9 ? 99 : 100);
        }
        due("behind 999", w.life(7, 50), 50);
        lots();
    }

    /** LOTS of 1, worked out with numbers that can't go round: each DAY's lot is just not, then just less. */
    private static void lots() {
        java.math.BigInteger l = java.math.BigInteger.ONE;
        for (int day = 1; day <= 5; day++) {
            l = l.multiply(java.math.BigInteger.valueOf(1103515245)).add(java.math.BigInteger.valueOf(12345));
            int lot = l.shiftRight(16).intValue() & 65535;
            for (int more = 0; more < 2; more++) {
                FuelTurns x = new FuelTurns();
                x.warn(0, on(day, 0, 0), 100 * (lot % 10000 + more));
                due("lot of day " + day, x.life(1, 9), more == 1 ? day : 9);
            }
        }
    }

    private static void lives() {
        FuelTurns x = new FuelTurns();
        due("many 0", x.lives(7, 0, 5), BEYOND);
        due("many 51", x.lives(7, 51, 5), BEYOND);
        due("n 0", x.lives(7, 5, 0), BEYOND);
        due("n 101", x.lives(7, 5, 101), BEYOND);
        due("all", x.lives(7, 50, 100), 50);
        x.warn(0, on(3, 0, 0), 1000000);
        due("none", x.lives(7, 50, 3), 0);
        due("ahead of it", x.lives(7, 50, 2), 50);
        FuelTurns y = new FuelTurns();
        y.warn(0, on(2, 0, 0), 500000);
        y.warn(0, on(4, 0, 0), 500000);
        int lasting = 0;
        for (int i = 0; i < 50; i++) {
            int lots = Integer.MAX_VALUE - 20 + i;
            lasting += y.life(lots, 5) == 5 ? 1 : 0;
        }
        due("one by one", y.lives(Integer.MAX_VALUE - 20, 50, 5), lasting);
        Check.holds("promise 28: some last, some don't", lasting > 0 && lasting < 50);
        // Of 0, 1, 2, .. only 0 has a lot of 0, of -1, 0, 1, .. too, but not of -2, -1.
        FuelTurns z = new FuelTurns();
        z.warn(0, on(1, 0, 0), 100);
        due("from 0 on", z.lives(0, 2, 1), 1);
        due("from 1 on", z.lives(1, 2, 1), 2);
        due("from -1 on", z.lives(-1, 2, 1), 1);
        due("from -2 on", z.lives(-2, 2, 1), 2);
    }

    private static void rests() {
        FuelTurns x = new FuelTurns();
        due("missing", x.rests(0), MISSING);
        due("no such", x.rests(4), BEYOND);
        due("no such", x.rests(-1), BEYOND);
        sheetOf(x, 0, 16, 3, 5, 1, 2, 3, 1, 5, 2);
        due("both go", x.rests(0), 8);
        sheetOf(x, 0, 16, 0, 0, 0, 0, 0, 0, 0, 0);
        due("all", x.rests(0), 15);
        due("and together", x.both(0, 1), 0);
        // Who goes alone is best off if the other one stays: 2 and 4.
        sheetOf(x, 0, 16, 0, 2, 1, -9, 0, 1, 2, -9);
        due("one of them", x.rests(0), 6);
        // The first wants to do as the second does, the second otherwise.
        sheetOf(x, 0, 16, 1, 0, 0, 1, 0, 1, 1, 0);
        due("none", x.rests(0), 0);
        sheetOf(x, 0, 16, 1, 0, 0, 0, 1, 0, 0, 0);
        due("stay, or both", x.rests(0), 1 + 8);
        sheetOf(x, 1, 64, 0, 0, 0, 0, 0, 0, 1000001, 0);
        due("above", x.rests(1), KIND);
        x.write(1, 6, -1000001);
        due("below", x.rests(1), KIND);
        x.write(1, 6, -1000000);
        due("least", x.rests(1), 1 + 2 + 8);
        x.write(1, 6, 1000000);
        due("most", x.rests(1), 2 + 4 + 8);
        x.sheet(1, 64, 7);
        due("seven", x.rests(1), SIZE);
        sheetOf(x, 1, 64, 0, 0, 0, 0, 0, 0, 0, 0, 1000001);
        due("SIZE ahead of KIND", x.rests(1), SIZE);
    }

    private static void both() {
        FuelTurns x = new FuelTurns();
        due("missing", x.both(0, 0), MISSING);
        due("BEYOND first", x.both(0, 2), BEYOND);
        due("what -1", x.both(0, -1), BEYOND);
        due("no such", x.both(4, 0), BEYOND);
        due("no such", x.both(-1, 0), BEYOND);
        sheetOf(x, 0, 16, 3, 5, 1, 2, 3, 1, 5, 2);
        due("most", x.both(0, 0), 6);
        due("less the best rest", x.both(0, 1), 2);
        // RESTS 2 and 4, of which 4 has 5 together, as all have at most.
        sheetOf(x, 0, 16, 0, 2, 1, -9, 0, 1, 4, -9);
        due("most", x.both(0, 0), 5);
        due("of two rests", x.both(0, 1), 0);
        sheetOf(x, 0, 16, 9, 0, 0, 0, 8, 0, 0, 0);
        due("both stay", x.both(0, 0), 17);
        sheetOf(x, 0, 16, 1, 0, 0, 1, 0, 1, 1, 0);
        due("most", x.both(0, 0), 1);
        due("no rest", x.both(0, 1), NONE);
        sheetOf(x, 0, 64, -1000000, -1000000, -1000000, -1000000, -1000000, -1000000, -1000000, -1000000);
        due("least", x.both(0, 0), -2000000);
        due("same", x.both(0, 1), 0);
        x.write(0, 0, -1000001);
        due("kind", x.both(0, 0), KIND);
        x.sheet(0, 64, 9);
        due("size", x.both(0, 1), SIZE);
    }

    private static void swarm() {
        FuelTurns x = new FuelTurns();
        due("missing", x.swarm(0, 1, 1, 0), MISSING);
        due("no such", x.swarm(4, 1, 1, 0), BEYOND);
        due("no such", x.swarm(-1, 1, 1, 0), BEYOND);
        due("gap", x.swarm(0, 51, 1, 0), BEYOND);
        due("gap", x.swarm(0, -1, 1, 0), BEYOND);
        due("most", x.swarm(0, 1, 21, 0), BEYOND);
        due("most", x.swarm(0, 1, -1, 0), BEYOND);
        due("what", x.swarm(0, 1, 1, -1), BEYOND);
        due("what", x.swarm(0, 1, 1, 14), BEYOND);
        due("what 13", x.swarm(0, 1, 1, 13), MISSING);
        sheetOf(x, 0, 8, 0, 0, 0);
        // The middle one alone: downwards.
        long[] middle = {1, 3, 0, -3, 0};
        for (int what = 0; what < 5; what++) {
            due("middle " + what, x.swarm(0, 3, 3, what), middle[what]);
        }
        due("no 3rd", x.swarm(0, 3, 3, 5), NONE);
        // By 2 at most, 3 apart: all three move.
        long[] all = {3, 4, -1, 2, -1};
        for (int what = 0; what < 5; what++) {
            due("all " + what, x.swarm(0, 3, 2, what), all[what]);
        }
        due("can't", x.swarm(0, 5, 2, 0), NONE);
        due("gap 0", x.swarm(0, 0, 0, 0), 0);
        sheetOf(x, 1, 8, 5, 5);
        due("the second", x.swarm(1, 20, 20, 2), 0);
        due("downwards", x.swarm(1, 20, 20, 3), -20);
        due("far", x.swarm(1, 40, 20, 2), -20);
        due("far", x.swarm(1, 40, 20, 3), 20);
        due("too far", x.swarm(1, 41, 20, 0), NONE);
        due("no 2nd", x.swarm(1, 1, 20, 4), NONE);
        // One that moves by more is ahead of two that move by less.
        sheetOf(x, 1, 8, 0, 1, 0, 100);
        due("one", x.swarm(1, 10, 20, 0), 1);
        due("nine and two", x.swarm(1, 10, 20, 3), 9);
        sheetOf(x, 2, 16, 100, -100);
        due("edges", x.swarm(2, 50, 0, 1), 0);
        x.write(2, 0, 101);
        due("above", x.swarm(2, 0, 0, 0), KIND);
        x.write(2, 0, -101);
        due("below", x.swarm(2, 0, 0, 0), KIND);
        x.sheet(2, 16, 1);
        due("one", x.swarm(2, 0, 0, 0), SIZE);
        x.sheet(2, 16, 13);
        x.write(2, 0, 200);
        due("thirteen", x.swarm(2, 0, 0, 0), SIZE);
        x.sheet(2, 16, 12);
        due("twelve", x.swarm(2, 1, 1, 0), 6);
        due("the second", x.swarm(2, 1, 1, 3), -1);
        due("the last", x.swarm(2, 1, 1, 13), -1);
    }

    private static void sheet() {
        FuelTurns x = new FuelTurns();
        due("no such", x.sheet(4, 8, 1), BEYOND);
        due("no such", x.sheet(-1, 8, 1), BEYOND);
        due("bits", x.sheet(0, 7, 1), BEYOND);
        due("bits", x.sheet(0, 32, 1), BEYOND);
        due("bits ahead of size", x.sheet(0, 32, -1), BEYOND);
        due("below 0", x.sheet(0, 8, -1), SIZE);
        due("below 0, missing", x.sheet(0, 0, -1), SIZE);
        due("41", x.sheet(0, 8, 41), BEYOND);
        due("41, missing", x.sheet(0, 0, 41), BEYOND);
        due("still missing", x.read(0), MISSING);
        due("none", x.sheet(0, 8, 0), 0);
        due("empty is not missing", x.read(0), 0);
        due("40", x.sheet(0, 64, 40), 40);
        due("last", x.write(0, 39, 5), 0);
        due("again", x.sheet(0, 64, 40), 40);
        due("all 0", x.write(0, 39, 5), 0);
        due("missing", x.sheet(0, 0, 12), 0);
        due("missing", x.write(0, 0, 1), MISSING);
        for (int s = 0; s < 4; s++) {
            due("each", x.sheet(s, 16, s + 1), s + 1);
        }
        due("apart", x.write(0, 1, 1), BEYOND);
        due("apart", x.write(3, 3, 1), 0);
    }

    private static void write() {
        FuelTurns x = new FuelTurns();
        due("no such", x.write(4, 0, 1), BEYOND);
        due("no such", x.write(-1, 0, 1), BEYOND);
        due("missing", x.write(0, -1, 1), MISSING);
        x.sheet(0, 8, 2);
        due("no number", x.write(0, 2, 1), BEYOND);
        due("no number", x.write(0, -1, 1), BEYOND);
        due("first", x.write(0, 1, 127), 0);
        due("most", x.write(0, 1, 128), 127);
        due("goes round", x.write(0, 1, -129), -128);
        due("goes round", x.write(0, 1, 0x1ffL), 127);
        due("lowest bits", x.write(0, 1, 0), -1);
        x.sheet(0, 16, 1);
        x.write(0, 0, 32768);
        due("16 bits", x.write(0, 0, 0x12345L), -32768);
        due("16 bits", x.write(0, 0, 0), 0x2345);
        x.sheet(0, 64, 1);
        x.write(0, 0, Long.MIN_VALUE);
        due("64 bits", x.write(0, 0, BEYOND), Long.MIN_VALUE);
        int before = x.status(-1);
        due("no finding", x.write(0, 0, 0), BEYOND);
        due("not counted", x.status(-1), before);
    }

    private static void copy() {
        FuelTurns x = new FuelTurns();
        sheetOf(x, 0, 8, 1, 2, 3, 4, 5);
        sheetOf(x, 1, 8, 0, 0, 0);
        sheetOf(x, 2, 16, 0, 0, 0);
        due("no such", x.copy(4, 0, 0, 0, 1), BEYOND);
        due("no such", x.copy(0, 0, -1, 0, 1), BEYOND);
        due("BEYOND ahead of MISSING", x.copy(3, 0, 4, 0, 1), BEYOND);
        due("missing", x.copy(0, 0, 3, 0, 1), MISSING);
        due("missing", x.copy(3, 0, 2, 0, 1), MISSING);
        due("kind", x.copy(0, 0, 2, 0, 1), KIND);
        due("KIND ahead of BEYOND", x.copy(0, -1, 2, 0, 1), KIND);
        due("from -1", x.copy(0, -1, 1, 0, 1), BEYOND);
        due("to -1", x.copy(0, 0, 1, -1, 1), BEYOND);
        due("n -1", x.copy(0, 0, 1, 0, -1), BEYOND);
        due("too many of the first", x.copy(0, 3, 1, 0, 3), BEYOND);
        due("too many of the second", x.copy(0, 0, 1, 1, 3), BEYOND);
        due("far", x.copy(0, Integer.MAX_VALUE, 1, 0, Integer.MAX_VALUE), BEYOND);
        due("far", x.copy(0, 1, 1, 1, Integer.MAX_VALUE), BEYOND);
        due("none", x.copy(0, 5, 1, 3, 0), 0);
        due("none, behind the end", x.copy(0, 6, 1, 0, 0), BEYOND);
        due("all of the second", x.copy(0, 0, 1, 0, 3), 3);
        due("two", x.copy(0, 3, 1, 1, 2), 2);
        due("0th", x.write(1, 0, 0), 1);
        due("1st", x.write(1, 1, 0), 4);
        due("2nd", x.write(1, 2, 0), 5);
        due("upwards", x.copy(0, 0, 0, 1, 4), 4);
        long[] up = {1, 1, 2, 3, 4};
        for (int i = 0; i < 5; i++) {
            due("as they were", x.write(0, i, i), up[i]);
        }
        due("downwards", x.copy(0, 1, 0, 0, 4), 4);
        long[] down = {1, 2, 3, 4, 4};
        for (int i = 0; i < 5; i++) {
            due("as they were", x.write(0, i, i), down[i]);
        }
    }

    private static void turns() {
        FuelTurns x = new FuelTurns();
        due("no such", x.turns(4), BEYOND);
        due("no such", x.turns(-1), BEYOND);
        due("missing", x.turns(0), MISSING);
        sheetOf(x, 0, 64, 2, -25, 25, -12, 0, -3, 9, 1L << 32);
        x.warn(0, on(3, -1, 0), 7);
        due("three", x.turns(0), 3);
        due("today", x.thing(0), 3);
        due("height", x.thing(1), -1);
        due("fuel", x.thing(2), 4);
        due("score", x.thing(3), 80 + 80 + 90);
        due("risk", x.thing(4), 7);
        FuelTurns y = new FuelTurns();
        y.plan(5, 60);
        y.move(12);
        sheetOf(y, 0, 8, -24, 24, -25, 25);
        due("24 down, 24 up", y.turns(0), 2);
        due("up", y.thing(1), 12);
        y.plan(5, 47);
        due("24 down, no fuel for 24 up", y.turns(0), 1);
        due("down", y.thing(1), -12);
        x.sheet(1, 8, 0);
        due("none", x.turns(1), 0);
        x.sheet(1, 8, 40);
        for (int i = 0; i < 9; i++) {
            x.days(100);
        }
        x.days(94);
        due("till 999", x.turns(1), 2);
        due("999", x.thing(0), 999);
        due("no more", x.turns(1), 0);
        sheetOf(x, 1, 8, 1);
        due("no move either", x.turns(1), 0);
        due("height", x.thing(1), -1);
        due("no finding", x.status(-1), 3);
    }

    private static void read() {
        FuelTurns x = new FuelTurns();
        due("no such", x.read(4), BEYOND);
        due("no such", x.read(-1), BEYOND);
        due("missing", x.read(0), MISSING);
        x.move(1);
        x.days(1);
        x.warn(0, on(2, 1, 0), 500);
        x.warn(0, on(4, 0, 1), 500);
        sheetOf(x, 0, 16, 500, 0, 250, 0);
        due("right", x.read(0), 0);
        x.write(0, 3, 1);
        due("the last", x.read(0), 4);
        x.write(0, 0, 501);
        due("the first", x.read(0), 1);
        x.move(-1);
        sheetOf(x, 0, 16, 0, 0, 500);
        due("elsewhere", x.read(0), 0);
        x.sheet(0, 64, 1);
        x.write(0, 0, 1L << 32);
        due("long", x.read(0), 1);
        x.sheet(0, 64, 0);
        due("none", x.read(0), 0);
        for (int i = 0; i < 10; i++) {
            x.days(i == 9 ? 98 : 100);
        }
        x.sheet(0, 64, 40);
        due("above 999", x.read(0), 0);
    }

    private static void image() {
        FuelTurns x = new FuelTurns();
        x.warn(1, on(5, 1, 1), 300000);
        x.look(0, 80, true);
        ruleOf(x, "1");
        x.runs(1);
        due("image", x.image(), 1);
        int chance = x.of(0, 4);
        int[] plan = {9, 1, 2, 3, 4, 60};
        int[] was = {1, 100, 10, 1000000, 0, 8};
        for (int what = 0; what < 6; what++) {
            x.plan(what, plan[what]);
        }
        x.look(0, 80, true);
        x.warn(0, on(6, 0, 0), 5);
        x.move(-2);
        x.days(6);
        ruleOf(x, "2");
        x.feed('7', 1);
        x.sheet(0, 8, 3);
        due("undo", x.undo(), 1);
        for (int what = 0; what < 6; what++) {
            due("plan " + what, x.plan(what, was[what]), was[what]);
        }
        due("height", x.thing(1), 1);
        due("score", x.thing(3), 90);
        due("risk", x.thing(4), 0);
        due("warnings", x.count(0), 1);
        due("chance", x.of(0, 4), chance);
        due("looks", x.of(0, 5), 1);
        due("rule", x.says(0), 1);
        due("not the tape", x.count(4), 1);
        due("not the sheets", x.read(0), 0);
    }

    private static void undo() {
        FuelTurns x = new FuelTurns();
        due("nothing kept", x.undo(), NONE);
        x.days(2);
        x.image();
        x.days(3);
        x.image();
        x.days(4);
        due("the latest", x.undo(), 5);
        x.days(1);
        due("it stays", x.undo(), 5);
        ruleOf(x, "1");
        x.warn(0, on(7, 0, 0), 5);
        x.undo();
        due("no rule", x.count(3), 0);
        due("no warning", x.count(0), 0);
        due("findings stay", x.status(3), 1);
        due("what was told anew is new", x.warn(0, on(8, 0, 0), 5), 0);
        due("no looks", x.of(0, 5), 0);
    }

    private static void tear() {
        FuelTurns x = new FuelTurns();
        due("nothing", x.tear(), 0);
        x.image();
        x.image();
        due("one", x.tear(), 1);
        due("nothing", x.tear(), 0);
        due("undo", x.undo(), NONE);
        x.image();
        due("anew", x.undo(), 0);
    }

    private static void count() {
        FuelTurns x = new FuelTurns();
        x.warn(0, on(7, 0, 0), 5);
        x.warn(0, on(3, 0, 0), 5);
        x.warn(0, on(1, 0, 0), 5);
        x.look(0, 60, true);
        x.look(1, 60, true);
        x.look(1, 60, false);
        x.days(1);
        ruleOf(x, "1");
        x.feed(0, 3);
        int[] want = {3, 2, 3, 1, 3, 3};
        for (int what = 0; what < 6; what++) {
            due("what " + what, x.count(what), want[what]);
        }
        x.days(2);
        due("the next", x.count(5), 7);
        x.days(4);
        due("none", x.count(5), -1);
        due("none open", x.count(1), 0);
        due("looks stay", x.count(2), 3);
        due("6", x.count(6), BEYOND);
        due("-1", x.count(-1), BEYOND);
    }

    private static void status() {
        FuelTurns x = new FuelTurns();
        due("none", x.status(-1), 0);
        x.move(25);
        x.undo();
        x.move(24);
        x.read(0);
        x.sheet(0, 8, -1);
        x.warn(0, on(1, 0, 0), 5);
        x.as(0, 1);
        for (int i = 0; i < 15; i++) {
            x.feed(0, 4);
        }
        x.feed(0, 1);
        x.feed(0, 1);
        int[] want = {1, 2, 1, 1, 1, 1, 1};
        for (int which = 0; which < 7; which++) {
            due("which " + which, x.status(which), want[which]);
        }
        due("all", x.status(-1), 8);
        due("7", x.status(7), BEYOND);
        due("counted from then on", x.status(0), 2);
        due("-2", x.status(-2), BEYOND);
        due("counted", x.status(-1), 10);
        x.image();
        x.may(25);
        x.undo();
        due("undo takes none back", x.status(0), 4);
    }
}
