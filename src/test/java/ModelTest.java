import java.util.Random;

/** Runs of calls by chance (the same ones each time): the class and the model answer alike. */
public final class ModelTest {
    private static final String SIGNS = "cdfhnt0123456789+-()<=>&?:";
    private final Random lot;
    private final FuelTurns x = new FuelTurns();
    private final Model y = new Model();
    private final int run;
    private int calls = 0;

    private ModelTest(int run) {
        this.run = run;
        this.lot = new Random(run);
    }

    public static void main(String[] args) {
        for (int run = 0; run < 1500; run++) {
            new ModelTest(run).go();
        }
        Check.end();
    }

    private void go() {
        int most = 100 + lot.nextInt(413);
        while (calls < most - 20) {
            switch (lot.nextInt(12)) {
                case 0: case 1: thing(); break;
                case 2: case 3: warnings(); break;
                case 4: case 5: rule(); break;
                case 6: case 7: ahead(); break;
                case 8: pairs(); break;
                case 9: sheets(); break;
                case 10: images(); break;
                default: looks();
            }
        }
        for (int what = 0; what < 5; what++) {
            is("thing " + what, x.thing(what), y.thing(what));
        }
        for (int which = -1; which < 7; which++) {
            is("status " + which, x.status(which), y.status(which));
        }
    }

    private void is(String call, long got, long want) {
        calls++;
        Check.due("run " + run + ", call " + calls + ": " + call, got, want);
    }

    /** Mostly from a to b, at times just beside it or far away. */
    private int from(int a, int b) {
        switch (lot.nextInt(40)) {
            case 0: return a - 1;
            case 1: return b + 1;
            case 2: return lot.nextInt();
            case 3: return a;
            case 4: return b;
            case 5: return lot.nextBoolean() ? Integer.MIN_VALUE : Integer.MAX_VALUE;
            default: return a + lot.nextInt(b - a + 1);
        }
    }

    private void thing() {
        int a;
        int b;
        switch (lot.nextInt(8)) {
            case 0: case 1:
                a = from(0, 5);
                int[] most = {9, 9999, 999, 99999999, 60, 60};
                b = from(0, a < 0 || a > 5 ? 99 : a == 4 && lot.nextBoolean() ? 5 : most[a]);
                is("plan " + a + " " + b, x.plan(a, b), y.plan(a, b));
                break;
            case 2: a = from(-24, 24); is("move " + a, x.move(a), y.move(a)); break;
            case 3: a = from(-6, 6); is("move " + a, x.move(a), y.move(a)); break;
            case 4: a = from(-24, 24); is("may " + a, x.may(a), y.may(a)); break;
            case 5: a = from(1, lot.nextInt(6) == 0 ? 100 : 3); is("days " + a, x.days(a), y.days(a)); break;
            case 6: a = from(1, lot.nextInt(6) == 0 ? 100 : 5); is("runs " + a, x.runs(a), y.runs(a)); break;
            default: a = from(0, 4); is("thing " + a, x.thing(a), y.thing(a));
        }
    }

    private void warnings() {
        int a = from(0, 5);
        int today = (int) y.thing(0);
        int day = today + from(1, lot.nextInt(4) == 0 ? 40 : 7);
        int of = lot.nextInt(30) == 0 ? lot.nextInt() : 10000 * day + 100 * (12 + from(-12, 12)) + from(0, 9);
        int chance = lot.nextInt(5) == 0 ? (lot.nextBoolean() ? 0 : 1000000) : from(0, 1000000);
        is("warn " + a + " " + of + " " + chance, x.warn(a, of, chance), y.warn(a, of, chance));
    }

    private void looks() {
        int w = from(0, Math.max(0, y.count(0) - 1));
        int a;
        int s = from(50, 100);
        boolean real = lot.nextBoolean();
        switch (lot.nextInt(8)) {
            case 0: a = from(0, 6); is("of " + w + " " + a, x.of(w, a), y.of(w, a)); break;
            case 1: a = from(0, 5); is("as " + w + " " + a, x.as(w, a), y.as(w, a)); break;
            case 2: a = from(-12, 12); is("struck " + w + " " + a, x.struck(w, a), y.struck(w, a)); break;
            case 3: is("look " + w + " " + s + real, x.look(w, s, real), y.look(w, s, real)); break;
            case 4: is("think " + w + " " + s + real, x.think(w, s, real), y.think(w, s, real)); break;
            case 5:
                a = aDay();
                int h = from(-12, 12);
                is("danger " + a + " " + h, x.danger(a, h), y.danger(a, h));
                break;
            case 6: a = aDay(); is("safest " + a, x.safest(a), y.safest(a)); break;
            default: is("open", x.open(), y.open());
        }
    }

    private int aDay() {
        int next = y.count(5);
        return next > 0 && lot.nextInt(3) > 0 ? next : from(0, 999);
    }

    private void rule() {
        switch (lot.nextInt(8)) {
            case 0: is("drift", x.drift(), y.drift()); break;
            case 1: is("wipe", x.wipe(), y.wipe()); break;
            case 2: is("rule", x.rule(), y.rule()); break;
            case 3: int b = lot.nextInt(); int n = from(1, 4); is("feed", x.feed(b, n), y.feed(b, n)); break;
            case 4: int a = from(0, 1); is("says " + a, x.says(a), y.says(a)); break;
            default:
                is("wipe", x.wipe(), y.wipe());
                String text = aText();
                feed(text);
                is("rule " + y.tape, x.rule(), y.rule());
                is("says 0 " + text, x.says(0), y.says(0));
                is("says 1 " + text, x.says(1), y.says(1));
        }
    }

    private void feed(String text) {
        int at = 0;
        while (at < text.length()) {
            int n = Math.min(text.length() - at, 4);
            int bytes = 0;
            for (int i = 0; i < n; i++) {
                bytes = bytes << 8 | text.charAt(at + i);
            }
            int b = bytes;
            is("feed", x.feed(b, n), y.feed(b, n));
            at += n;
        }
    }

    private String aText() {
        StringBuilder text = new StringBuilder();
        for (int c = lot.nextInt(3); c > 0; c--) {
            text.append(aTest());
            for (int i = lot.nextInt(2); i > 0; i--) {
                text.append('&').append(aTest());
            }
            text.append('?').append(aSum(0)).append(':');
        }
        text.append(aSum(0));
        int faults = lot.nextInt(3) == 0 ? 1 + lot.nextInt(2) : 0;
        for (int i = 0; i < faults; i++) {
            int at = lot.nextInt(text.length());
            switch (lot.nextInt(4)) {
                case 0: text.setCharAt(at, SIGNS.charAt(lot.nextInt(SIGNS.length()))); break;
                case 1: text.insert(at, SIGNS.charAt(lot.nextInt(SIGNS.length()))); break;
                case 2: text.setLength(at + 1); break;
                default: text.setCharAt(at, (char) lot.nextInt(256));
            }
        }
        return text.toString();
    }

    private String aTest() {
        return aSum(0) + "<=>".charAt(lot.nextInt(3)) + aSum(0);
    }

    private String aSum(int open) {
        String sum = aPart(open);
        for (int i = lot.nextInt(5) / 3; i > 0; i--) {
            sum += (lot.nextBoolean() ? "+" : "-") + aPart(open);
        }
        return sum;
    }

    private String aPart(int open) {
        int which = lot.nextInt(10);
        if (which == 0 && open < 6) return "-" + aPart(open + 1);
        if (which == 1 && open < 6) return "(" + aSum(open + 1) + ")";
        if (which == 2 && open < 6) return "(-".charAt(lot.nextInt(2)) == '(' ? "(" + aPart(open + 1) + ")" : "-" + aPart(open + 1);
        if (which < 6) return "" + "cdfhnt".charAt(lot.nextInt(6));
        if (which == 6) return "" + lot.nextInt(10000000);
        return "" + lot.nextInt(15);
    }

    private void ahead() {
        int n = from(1, 8);
        int a;
        switch (lot.nextInt(8)) {
            case 0:
                for (int what = 0; what < 4; what++) {
                    is("best " + n + " " + what, x.best(n, what), y.best(n, what));
                }
                break;
            case 1: a = from(0, 3); is("best " + n + " " + a, x.best(n, a), y.best(n, a)); break;
            case 2: a = from(0, Math.max(1, Math.min(n, 8)) - 1); is("turn " + n + " " + a, x.turn(n, a), y.turn(n, a)); break;
            case 3: is("rest " + n, x.rest(n), y.rest(n)); break;
            case 4:
                a = lot.nextInt(3) == 0 ? 0 : from(0, 1000000);
                int more = from(0, 20);
                is("home " + a + " " + more, x.home(a, more), y.home(a, more));
                break;
            case 5:
                a = from(0, Math.max(0, y.count(0) - 1));
                int s = from(50, 100);
                is("know " + a + " " + s + " " + n, x.know(a, s, n), y.know(a, s, n));
                break;
            case 6: a = lot.nextInt(); n = from(1, 100); is("life " + a + " " + n, x.life(a, n), y.life(a, n)); break;
            default:
                a = lot.nextInt(9) == 0 ? Integer.MAX_VALUE : lot.nextInt();
                int many = from(1, 50);
                n = from(1, lot.nextInt(5) == 0 ? 100 : 10);
                is("lives " + a + " " + many + " " + n, x.lives(a, many, n), y.lives(a, many, n));
        }
    }

    private void pairs() {
        int s = lot.nextInt(30) == 0 ? from(0, 3) : lot.nextInt(4);
        int bits = new int[] {8, 16, 64}[lot.nextInt(3)];
        boolean swarm = lot.nextBoolean();
        int n = swarm ? from(2, 12) : lot.nextInt(20) == 0 ? from(7, 9) : 8;
        is("sheet " + s + " " + bits + " " + n, x.sheet(s, bits, n), y.sheet(s, bits, n));
        int spread = new int[] {2, 5, 20, 100}[lot.nextInt(4)];
        for (int i = 0; i < Math.min(n, 12); i++) {
            long v = lot.nextInt(60) == 0 ? lot.nextLong() : lot.nextInt(2 * spread + 1) - spread;
            is("write", x.write(s, i, v), y.write(s, i, v));
        }
        if (!swarm) {
            is("rests " + s, x.rests(s), y.rests(s));
            for (int what = 0; what < 2; what++) {
                is("both " + s + " " + what, x.both(s, what), y.both(s, what));
            }
            return;
        }
        int gap = from(0, lot.nextBoolean() ? 50 : 5);
        int most = from(0, 20);
        for (int what = 0; what < 5; what++) {
            int w = what < 3 ? what : from(0, 13);
            is("swarm " + s + " " + gap + " " + most + " " + w, x.swarm(s, gap, most, w), y.swarm(s, gap, most, w));
        }
    }

    private void sheets() {
        int s = from(0, 3);
        int a;
        int b;
        switch (lot.nextInt(7)) {
            case 0:
                a = lot.nextInt(9) == 0 ? lot.nextInt(70) : new int[] {0, 8, 16, 64}[lot.nextInt(4)];
                b = from(0, lot.nextBoolean() ? 40 : 10);
                is("sheet " + s + " " + a + " " + b, x.sheet(s, a, b), y.sheet(s, a, b));
                break;
            case 1:
                a = from(0, 10);
                long v = lot.nextLong();
                is("write " + s + " " + a + " " + v, x.write(s, a, v), y.write(s, a, v));
                break;
            case 2:
                a = from(0, 10);
                v = lot.nextInt(9) - 4;
                is("write " + s + " " + a + " " + v, x.write(s, a, v), y.write(s, a, v));
                break;
            case 3:
                int t = from(0, 3);
                a = from(0, 8);
                b = from(0, 8);
                int n = from(0, 8);
                is("copy", x.copy(s, a, t, b, n), y.copy(s, a, t, b, n));
                break;
            case 4: is("turns " + s, x.turns(s), y.turns(s)); break;
            case 5: is("read " + s, x.read(s), y.read(s)); break;
            default: foreseen();
        }
    }

    /** A sheet that READS right, or nearly so. */
    private void foreseen() {
        int n = lot.nextInt(6);
        is("sheet 3 64 " + n, x.sheet(3, 64, n), y.sheet(3, 64, n));
        int wrongAt = lot.nextInt(8);
        for (int i = 0; i < n; i++) {
            long v = Model.dangerOf(y.x, y.x.today + 1 + i, y.x.height) + (i == wrongAt ? 1 : 0);
            is("write", x.write(3, i, v), y.write(3, i, v));
        }
        is("read 3", x.read(3), y.read(3));
    }

    private void images() {
        int a;
        switch (lot.nextInt(7)) {
            case 0: is("image", x.image(), y.image()); break;
            case 1: is("undo", x.undo(), y.undo()); break;
            case 2: if (lot.nextInt(4) == 0) is("tear", x.tear(), y.tear()); break;
            case 3: case 4: a = from(0, 5); is("count " + a, x.count(a), y.count(a)); break;
            default: a = from(-1, 6); is("status " + a, x.status(a), y.status(a));
        }
    }
}
