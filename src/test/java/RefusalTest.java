import java.util.ArrayList;
import java.util.Arrays;
import java.util.List;

/**
 * "Each act tells its findings in the order in which they are asked; one that answers a finding
 * changes nothing but status()." Two objects come to the same state; one of them is refused an act.
 * Then both are asked for all that can be told, and answer alike. So, too, for acts that only ask.
 */
public final class RefusalTest extends Given {
    interface Act {
        long of(FuelTurns x);
    }

    interface State {
        FuelTurns come();
    }

    private static State state = RefusalTest::busy;

    private RefusalTest() {
    }

    public static void main(String[] args) {
        busyRefusals();
        sheetRefusals();
        sheetOrders();
        newRefusals();
        fullRefusals();
        lastDayRefusals();
        onlyAsked();
        Check.end();
    }

    // ---- states

    /** Of all there is something; TODAY 3, HEIGHT 2, WARNINGS: one not OPEN, one that can't be looked at as 1. */
    private static FuelTurns busy() {
        FuelTurns x = new FuelTurns();
        x.warn(1, on(2, 1, 3), 500000);
        x.warn(4, on(6, 2, 2), 0);
        x.look(0, 80, true);
        ruleOf(x, "1");
        x.move(1);
        x.runs(1);
        x.image();
        x.days(2);
        x.warn(5, on(9, 3, 4), 1000000);
        x.look(2, 60, false);
        ruleOf(x, "n-c+t");
        feedText(x, "h+4");
        sheetOf(x, 0, 8, 1, 2, 3);
        sheetOf(x, 1, 16, 4, 5, 6, 7, 8, 9, 10, 11);
        sheetOf(x, 2, 64, 1L << 40, -1);
        return x;
    }

    /** All that can be full is full. */
    private static FuelTurns full() {
        FuelTurns x = new FuelTurns();
        x.plan(FUEL, 60);
        for (int i = 0; i < 12; i++) {
            x.warn(i % 6, on(5 + i, i, i % 10), 80000 * i);
        }
        x.move(12);
        feedText(x, "1+1+1+1+1+1+1+1+1+1+1+1+1+1+1+1+1+1+1+1+1+1+1+1+1+1+1+1+1+1+");
        x.sheet(0, 64, 40);
        x.image();
        return x;
    }

    private static FuelTurns lastDay() {
        FuelTurns x = new FuelTurns();
        x.warn(0, on(990, 0, 0), 300000);
        ruleOf(x, "1");
        x.move(-3);
        x.image();
        return waits(x, 999);
    }

    private static FuelTurns none() {
        return new FuelTurns();
    }

    // ---- all that can be told: some 150 calls, the last of which change what they ask for

    private static List<Long> tellAll(FuelTurns x) {
        List<Long> all = new ArrayList<>();
        tellWorld(x, all);
        for (int s = 0; s < 4; s++) {
            tellSheet(x, s, all);
        }
        all.add((long) x.rule());
        all.add((long) x.says(0));
        all.add((long) x.wipe());
        all.add((long) x.undo());
        tellWorld(x, all);
        all.add((long) x.tear());
        return all;
    }

    private static void tellWorld(FuelTurns x, List<Long> all) {
        for (int what = 0; what < 5; what++) {
            all.add(x.thing(what));
        }
        for (int what = 0; what < 6; what++) {
            all.add((long) planned(x, what));
            all.add((long) x.count(what));
        }
        for (int w = 0; w < x.count(0); w++) {
            for (int what = 0; what < 7; what++) {
                all.add((long) x.of(w, what));
            }
        }
        all.add((long) x.says(0));
        all.add((long) x.says(1));
        all.add((long) x.life(3, 20));
    }

    private static void tellSheet(FuelTurns x, int s, List<Long> all) {
        boolean more = true;
        for (int i = 0; i < 41 && more; i++) {
            long was = x.write(s, i, Long.MIN_VALUE + 127);
            long is = x.write(s, i, was);
            all.add(was);
            all.add(is);
            more = is != BEYOND && is != MISSING;
        }
    }

    private static void refused(String act, Act a, int finding) {
        FuelTurns x = state.come();
        FuelTurns twin = state.come();
        Check.due(act, a.of(x), finding);
        for (int which = -1; which <= 6; which++) {
            boolean one = which == -1 || BEYOND - which == finding;
            Check.due(act + " in status " + which, x.status(which), twin.status(which) + (one ? 1 : 0));
        }
        Check.holds(act + " changes nothing else", tellAll(x).equals(tellAll(twin)));
    }

    private static void asked(String act, Act a) {
        FuelTurns x = state.come();
        FuelTurns twin = state.come();
        long first = a.of(x);
        Check.due(act + " once more", a.of(x), first);
        for (int which = -1; which <= 6; which++) {
            Check.due(act + " in status " + which, x.status(which), twin.status(which));
        }
        Check.holds(act + " changes nothing", tellAll(x).equals(tellAll(twin)));
    }

    // ---- acts

    private static void busyRefusals() {
        state = RefusalTest::busy;
        Check.holds("something is told", tellAll(busy()).size() > 100);
        refused("plan what", x -> x.plan(6, 1), BEYOND);
        refused("plan what", x -> x.plan(-1, 1), BEYOND);
        for (int what = 0; what < 6; what++) {
            int w = what;
            refused("plan " + what, x -> x.plan(w, -1), BEYOND);
            refused("plan " + what, x -> x.plan(w, 100000000), BEYOND);
        }
        refused("move", x -> x.move(25), BEYOND);
        refused("move", x -> x.move(24), STATE);
        refused("move by FUEL", x -> x.move(9), STATE);
        refused("may", x -> x.may(-25), BEYOND);
        refused("days", x -> x.days(0), BEYOND);
        refused("days", x -> x.days(101), BEYOND);
        refused("runs", x -> x.runs(0), BEYOND);
        refused("runs", x -> x.runs(101), BEYOND);
        refused("thing", x -> x.thing(5), BEYOND);
        refused("warn kind", x -> x.warn(6, on(9, 0, 0), 1), BEYOND);
        refused("warn of", x -> x.warn(0, on(3, 0, 0), 1), BEYOND);
        refused("warn chance", x -> x.warn(0, on(9, 0, 0), 1000001), BEYOND);
        refused("of", x -> x.of(3, 0), BEYOND);
        refused("of what", x -> x.of(0, 7), BEYOND);
        refused("as", x -> x.as(3, 0), BEYOND);
        refused("as kind", x -> x.as(0, 6), BEYOND);
        refused("as another", x -> x.as(0, 5), KIND);
        refused("struck", x -> x.struck(3, 0), BEYOND);
        refused("struck height", x -> x.struck(0, 13), BEYOND);
        refused("look", x -> x.look(3, 60, true), BEYOND);
        refused("look sureness", x -> x.look(2, 49, true), BEYOND);
        refused("look not open", x -> x.look(0, 60, true), STATE);
        refused("look can't be", x -> x.look(1, 100, true), STATE);
        refused("look can't be 0", x -> x.look(2, 100, false), STATE);
        refused("look BEYOND first", x -> x.look(0, 101, true), BEYOND);
        refused("think", x -> x.think(3, 60, true), BEYOND);
        refused("think sureness", x -> x.think(2, 101, true), BEYOND);
        refused("think not open", x -> x.think(0, 60, true), STATE);
        refused("think can't be", x -> x.think(1, 100, true), STATE);
        refused("danger day", x -> x.danger(1000, 0), BEYOND);
        refused("danger height", x -> x.danger(1, -13), BEYOND);
        refused("safest", x -> x.safest(1000), BEYOND);
        refused("feed", x -> x.feed('1', 5), BEYOND);
        refused("feed", x -> x.feed('1', 0), BEYOND);
        refused("says", x -> x.says(2), BEYOND);
        refused("best n", x -> x.best(9, 0), BEYOND);
        refused("best what", x -> x.best(8, 4), BEYOND);
        refused("turn", x -> x.turn(8, 8), BEYOND);
        refused("rest", x -> x.rest(9), BEYOND);
        refused("home", x -> x.home(1000001, 0), BEYOND);
        refused("home", x -> x.home(0, 21), BEYOND);
        refused("know", x -> x.know(3, 60, 1), BEYOND);
        refused("know n", x -> x.know(2, 60, 9), BEYOND);
        refused("know not open", x -> x.know(0, 60, 1), STATE);
        refused("know BEYOND first", x -> x.know(0, 49, 1), BEYOND);
        refused("life", x -> x.life(1, 101), BEYOND);
        refused("lives many", x -> x.lives(1, 51, 1), BEYOND);
        refused("lives n", x -> x.lives(1, 1, 0), BEYOND);
        refused("count", x -> x.count(6), BEYOND);
        refused("status", x -> x.status(7), BEYOND);
        refused("status", x -> x.status(-2), BEYOND);
    }

    private static void sheetRefusals() {
        state = RefusalTest::busy;
        refused("rests", x -> x.rests(4), BEYOND);
        refused("rests", x -> x.rests(3), MISSING);
        refused("rests", x -> x.rests(0), SIZE);
        refused("both", x -> x.both(4, 0), BEYOND);
        refused("both", x -> x.both(1, 2), BEYOND);
        refused("both", x -> x.both(3, 0), MISSING);
        refused("both", x -> x.both(0, 0), SIZE);
        refused("swarm", x -> x.swarm(4, 1, 1, 0), BEYOND);
        refused("swarm gap", x -> x.swarm(0, 51, 1, 0), BEYOND);
        refused("swarm most", x -> x.swarm(0, 1, 21, 0), BEYOND);
        refused("swarm what", x -> x.swarm(0, 1, 1, 14), BEYOND);
        refused("swarm", x -> x.swarm(3, 1, 1, 0), MISSING);
        refused("swarm", x -> x.swarm(2, 1, 1, 0), KIND);
        refused("swarm can't be", x -> x.swarm(0, 50, 1, 0), NONE);
        refused("swarm no i-th", x -> x.swarm(0, 1, 1, 5), NONE);
        refused("sheet", x -> x.sheet(4, 8, 1), BEYOND);
        refused("sheet bits", x -> x.sheet(0, 32, 1), BEYOND);
        refused("sheet size", x -> x.sheet(0, 8, -1), SIZE);
        refused("sheet size", x -> x.sheet(0, 0, -1), SIZE);
        refused("sheet size", x -> x.sheet(0, 8, 41), BEYOND);
        refused("sheet size", x -> x.sheet(0, 0, 41), BEYOND);
        refused("write", x -> x.write(4, 0, 1), BEYOND);
        refused("write", x -> x.write(3, 0, 1), MISSING);
        refused("write", x -> x.write(0, 3, 1), BEYOND);
        refused("write", x -> x.write(0, -1, 1), BEYOND);
        refused("copy", x -> x.copy(0, 0, 4, 0, 1), BEYOND);
        refused("copy", x -> x.copy(0, 0, 3, 0, 1), MISSING);
        refused("copy", x -> x.copy(0, 0, 1, 0, 1), KIND);
        refused("copy", x -> x.copy(0, 0, 0, 1, 3), BEYOND);
        refused("copy", x -> x.copy(0, 1, 0, 0, 3), BEYOND);
        refused("copy", x -> x.copy(0, 0, 0, 1, -1), BEYOND);
        refused("turns", x -> x.turns(4), BEYOND);
        refused("turns", x -> x.turns(3), MISSING);
        refused("read", x -> x.read(4), BEYOND);
        refused("read", x -> x.read(3), MISSING);
        state = RefusalTest::pairs;
        refused("rests", x -> x.rests(0), KIND);
        refused("both", x -> x.both(0, 0), KIND);
        refused("both", x -> x.both(1, 1), NONE);
        refused("swarm", x -> x.swarm(2, 1, 1, 0), SIZE);
        refused("swarm", x -> x.swarm(3, 1, 1, 0), SIZE);
    }

    private static FuelTurns pairs() {
        FuelTurns x = new FuelTurns();
        sheetOf(x, 0, 64, 1, 2, 3, 4, 5, 6, 7, 1000001);
        sheetOf(x, 1, 8, 1, 0, 0, 1, 0, 1, 1, 0);
        sheetOf(x, 2, 16, 500);
        x.sheet(3, 16, 13);
        return x;
    }

    /** Where more than one finding would be right, that which is asked first is told. */
    private static void sheetOrders() {
        state = RefusalTest::busy;
        refused("both BEYOND, MISSING", x -> x.both(3, 2), BEYOND);
        refused("both BEYOND, SIZE", x -> x.both(0, 2), BEYOND);
        refused("swarm BEYOND, MISSING", x -> x.swarm(3, 1, 1, 14), BEYOND);
        refused("swarm BEYOND, KIND", x -> x.swarm(2, 51, 1, 0), BEYOND);
        refused("swarm KIND, NONE", x -> x.swarm(2, 50, 0, 13), KIND);
        refused("sheet BEYOND, SIZE", x -> x.sheet(0, 7, -1), BEYOND);
        refused("write MISSING, BEYOND", x -> x.write(3, -1, 1), MISSING);
        refused("copy BEYOND, MISSING", x -> x.copy(4, 0, 3, 0, 1), BEYOND);
        refused("copy MISSING, KIND", x -> x.copy(3, -1, 0, 0, 1), MISSING);
        refused("copy KIND, BEYOND", x -> x.copy(0, -1, 1, 0, 1), KIND);
        state = RefusalTest::pairs;
        refused("swarm SIZE, KIND", x -> x.swarm(2, 50, 0, 13), SIZE);
        refused("both KIND, BEYOND", x -> x.both(0, 2), BEYOND);
    }

    private static void newRefusals() {
        state = RefusalTest::none;
        refused("undo", FuelTurns::undo, NONE);
        refused("home", x -> x.home(0, 0), STATE);
        refused("home BEYOND first", x -> x.home(-1, 0), BEYOND);
        refused("of", x -> x.of(0, 0), BEYOND);
        refused("as", x -> x.as(0, 0), BEYOND);
        refused("look", x -> x.look(0, 60, true), BEYOND);
        refused("know", x -> x.know(0, 60, 1), BEYOND);
        for (int s = 0; s < 4; s++) {
            int t = s;
            refused("rests", x -> x.rests(t), MISSING);
            refused("both", x -> x.both(t, 1), MISSING);
            refused("turns", x -> x.turns(t), MISSING);
            refused("copy", x -> x.copy(t, 0, t, 0, 0), MISSING);
        }
    }

    private static void fullRefusals() {
        state = RefusalTest::full;
        refused("warn", x -> x.warn(0, on(9, 0, 0), 1), FULL);
        refused("warn BEYOND first", x -> x.warn(0, on(0, 0, 0), 1), BEYOND);
        for (int n = 1; n <= 4; n++) {
            int m = n;
            refused("feed", x -> x.feed(0x31313131, m), FULL);
        }
        refused("feed BEYOND first", x -> x.feed('1', 5), BEYOND);
        refused("move", x -> x.move(1), STATE);
        refused("as", x -> x.as(11, 4), KIND);
        refused("sheet", x -> x.sheet(0, 64, 41), BEYOND);
        refused("rests", x -> x.rests(0), SIZE);
        refused("swarm", x -> x.swarm(0, 0, 0, 0), SIZE);
        refused("copy", x -> x.copy(0, 0, 0, 1, 40), BEYOND);
        state = () -> {
            FuelTurns x = full();
            x.plan(FUEL, 11);
            return x;
        };
        refused("home by FUEL", x -> x.home(1000000, 0), NONE);
        state = () -> {
            FuelTurns x = new FuelTurns();
            x.move(1);
            for (int day = 4; day <= 48; day += 4) {
                x.warn(0, on(day, 0, 0), 1);
            }
            return x;
        };
        refused("home", x -> x.home(0, 4), NONE);
    }

    private static void lastDayRefusals() {
        state = RefusalTest::lastDay;
        refused("days", x -> x.days(1), STATE);
        refused("days", x -> x.days(100), STATE);
        refused("runs", x -> x.runs(1), STATE);
        refused("runs", x -> x.runs(100), STATE);
        refused("days BEYOND first", x -> x.days(101), BEYOND);
        refused("runs BEYOND first", x -> x.runs(0), BEYOND);
        refused("warn", x -> x.warn(0, on(999, 0, 0), 1), BEYOND);
        refused("look", x -> x.look(0, 60, true), STATE);
        refused("know", x -> x.know(0, 60, 8), STATE);
        state = () -> waits(warned(0, on(990, 0, 0), 5), 950);
        refused("days", x -> x.days(50), STATE);
        refused("runs", x -> x.runs(50), STATE);
    }

    private static void onlyAsked() {
        for (State s : Arrays.<State>asList(RefusalTest::busy, RefusalTest::lastDay)) {
            state = s;
            asked("may", x -> x.may(3));
            asked("thing", x -> x.thing(3));
            asked("of", x -> x.of(0, 4));
            asked("as", x -> x.as(0, 0));
            asked("struck", x -> x.struck(0, 1));
            asked("danger", x -> x.danger(6, 2));
            asked("safest", x -> x.safest(9));
            asked("open", FuelTurns::open);
            asked("says", x -> x.says(0));
            asked("says", x -> x.says(1));
            for (int n = 1; n <= 8; n += 7) {
                int m = n;
                asked("best", x -> x.best(m, 0));
                asked("turn", x -> x.turn(m, 0));
                asked("rest", x -> x.rest(m));
            }
            asked("home", x -> x.home(1000000, 0));
            asked("life", x -> x.life(7, 100));
            asked("lives", x -> x.lives(7, 50, 100));
            asked("count", x -> x.count(5));
            asked("status", x -> x.status(-1));
        }
        state = RefusalTest::busy;
        asked("think", x -> x.think(2, 70, true));
        asked("know", x -> x.know(2, 70, 8));
        asked("rests", x -> x.rests(1));
        asked("both", x -> x.both(1, 0));
        asked("swarm", x -> x.swarm(1, 3, 20, 0));
        asked("read", x -> x.read(0));
        state = () -> {
            FuelTurns x = busy();
            feedText(x, "+");
            return x;
        };
        asked("rule with a FAULT", FuelTurns::rule);
    }
}
