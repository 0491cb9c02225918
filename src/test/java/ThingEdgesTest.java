/** Section 1 and promises 1 to 7, sentence by sentence at their edges. */
public final class ThingEdgesTest extends Given {
    private ThingEdgesTest() {
    }

    public static void main(String[] args) {
        newObject();
        heightAndFuel();
        planLimits();
        price();
        useAndOff();
        keep();
        moveLimits();
        moveByNone();
        mayAsksOnly();
        daysLimits();
        dayEnds();
        runsLimits();
        runsMovesAhead();
        thingLimits();
        Check.end();
    }

    private static void newObject() {
        sentence("FuelTurns(): TODAY 0; no WARNINGS, no RULE; THE TAPE is empty, no image is kept");
        FuelTurns x = new FuelTurns();
        due(x.thing(0), 0);
        due(x.count(0), 0);
        due(x.open(), 0);
        due(x.count(3), 0);
        due(x.count(4), 0);
        due(x.status(-1), 0);
        due(x.wipe(), 0);
        due(x.drift(), 0);
        due(x.tear(), 0);
        due(x.rule(), -1);
        due(x.undo(), NONE);
        sentence("HEIGHT (0 at first), FUEL (9 at first), SCORE (0 at first), RISK (0 at first)");
        FuelTurns y = new FuelTurns();
        due(y.thing(1), 0);
        due(y.thing(2), 9);
        due(y.thing(3), 0);
        due(y.thing(4), 0);
        sentence("SHEETS are MISSING (at first)");
        for (int s = 0; s < 4; s++) {
            due(y.write(s, 0, 1), MISSING);
            due(y.turns(s), MISSING);
        }
    }

    private static void heightAndFuel() {
        sentence("HEIGHT (-12 to 12)");
        due(at(11, 1).move(1), 12);
        due(at(-11, 1).move(-1), -12);
        due(at(12, 60).move(1), STATE);
        due(at(-12, 60).move(-1), STATE);
        due(at(12, 60).may(1), 0);
        due(at(-12, 60).may(-1), 0);
        due(at(11, 60).move(-24), STATE);
        due(at(11, 60).move(-23), -12);
        due(at(-11, 60).move(24), STATE);
        due(at(-11, 60).move(23), 12);
        due(at(12, 60).move(-24), -12);
        due(at(-12, 60).move(24), 12);
        sentence("FUEL (0 to 60)");
        FuelTurns x = new FuelTurns();
        due(x.plan(FUEL, 61), BEYOND);
        due(x.plan(FUEL, -1), BEYOND);
        due(x.thing(2), 9);
        due(x.plan(FUEL, 0), 9);
        due(x.thing(2), 0);
        due(x.plan(FUEL, 60), 0);
        due(x.thing(2), 60);
    }

    private static void planLimits() {
        String[] words = {"PRICE (1 to 9; 1 at first)", "USE (0 to 9999; 100)", "OFF (0 to 999; 10)",
            "HARM (0 to 99999999; 1000000)", "KEEP (0 to 60; 0)", "FUEL (0 to 60; 9 at first)"};
        int[] first = {1, 100, 10, 1000000, 0, 9};
        int[] least = {1, 0, 0, 0, 0, 0};
        int[] most = {9, 9999, 999, 99999999, 60, 60};
        for (int what = 0; what < 6; what++) {
            sentence(words[what]);
            FuelTurns x = new FuelTurns();
            for (int wrong : new int[] {least[what] - 1, most[what] + 1, LEAST, MOST}) {
                due(x.plan(what, wrong), BEYOND);
            }
            due(x.plan(what, most[what]), first[what]);
            due(x.plan(what, least[what]), most[what]);
            due(x.plan(what, first[what]), least[what]);
            due(x.status(0), 4);
            for (int other = 0; other < 6; other++) {
                due(planned(x, other), first[other]);
            }
        }
        sentence("plan: BEYOND (what)");
        FuelTurns x = new FuelTurns();
        for (int what : new int[] {-1, 6, LEAST, MOST}) {
            due(x.plan(what, 1), BEYOND);
            due(x.plan(what, -1), BEYOND);
        }
        due(x.status(-1), 8);
    }

    private static void price() {
        sentence("PRICE: FUEL a step");
        for (int price = 1; price <= 9; price++) {
            FuelTurns x = new FuelTurns();
            x.plan(PRICE, price);
            x.plan(FUEL, 2 * price);
            due(x.may(3), 0);
            due(x.may(-3), 0);
            due(x.move(-2), -2);
            due(x.thing(2), 0);
            x.plan(FUEL, 2 * price - 1);
            due(x.move(2), STATE);
            due(x.move(1), -1);
            due(x.thing(2), price - 1);
        }
    }

    /** SCORE of one DAY at a HEIGHT. */
    private static long scoreOf(int use, int off, int height) {
        FuelTurns x = at(height, 0);
        x.plan(USE, use);
        x.plan(OFF, off);
        x.days(1);
        return x.thing(3);
    }

    private static void useAndOff() {
        sentence("USE: what a DAY is worth at HEIGHT 0");
        due(scoreOf(0, 999, 0), 0);
        due(scoreOf(9999, 999, 0), 9999);
        sentence("OFF: less a step from it, 0 at least together");
        due(scoreOf(100, 10, 9), 10);
        due(scoreOf(100, 10, -9), 10);
        due(scoreOf(100, 10, 10), 0);
        due(scoreOf(100, 10, -11), 0);
        due(scoreOf(100, 10, 12), 0);
        due(scoreOf(9999, 999, 10), 9);
        due(scoreOf(9999, 999, 11), 0);
        due(scoreOf(9999, 0, 12), 9999);
        due(scoreOf(0, 0, -12), 0);
        due(scoreOf(1, 1, 1), 0);
        due(scoreOf(2, 1, -1), 1);
    }

    private static void keep() {
        sentence("FUEL less PRICE times the steps (no sign) is KEEP or more");
        FuelTurns x = new FuelTurns();
        x.plan(PRICE, 2);
        x.plan(KEEP, 5);
        due(x.may(2), 1);
        due(x.may(-2), 1);
        due(x.may(3), 0);
        due(x.may(-3), 0);
        due(x.move(3), STATE);
        due(x.move(-2), -2);
        due(x.thing(2), 5);
        due(x.may(1), 0);
        due(x.may(-1), 0);
        x.plan(KEEP, 60);
        x.plan(FUEL, 60);
        due(x.may(-1), 0);
        x.plan(KEEP, 59);
        due(x.may(-1), 0);
        x.plan(KEEP, 58);
        due(x.may(-1), 1);
        sentence("KEEP: FUEL that no move takes");
        x.plan(PRICE, 1);
        x.plan(FUEL, 3);
        x.plan(KEEP, 4);
        due(x.may(1), 0);
        due(x.move(1), STATE);
        due(x.thing(2), 3);
    }

    private static void moveLimits() {
        sentence("A MOVE by s steps (-24 to 24)");
        for (int steps : new int[] {25, -25, LEAST, MOST, LEAST + 1}) {
            FuelTurns x = at(steps < 0 ? 12 : -12, 60);
            due(x.move(steps), BEYOND);
            due(x.may(steps), BEYOND);
            due(x.status(0), 2);
            due(x.thing(1), steps < 0 ? 12 : -12);
        }
        sentence("move: BEYOND: steps. STATE: it CAN'T be");
        FuelTurns x = new FuelTurns();
        x.plan(FUEL, 0);
        due(x.move(25), BEYOND);
        due(x.move(24), STATE);
        due(x.move(-24), STATE);
        due(x.status(0), 1);
        due(x.status(4), 2);
    }

    private static void moveByNone() {
        sentence("a MOVE by 0 always CAN");
        FuelTurns x = at(12, 0);
        due(x.may(0), 1);
        due(x.move(0), 12);
        x.plan(KEEP, 60);
        x.plan(PRICE, 9);
        due(x.may(0), 1);
        due(x.move(0), 12);
        due(x.thing(2), 0);
        due(x.status(-1), 0);
    }

    private static void mayAsksOnly() {
        sentence("may: whether a MOVE CAN be: 1, 0 (no finding)");
        FuelTurns x = new FuelTurns();
        due(x.may(9), 1);
        due(x.may(10), 0);
        due(x.may(24), 0);
        due(x.may(-24), 0);
        due(x.status(-1), 0);
        due(x.thing(1), 0);
        due(x.thing(2), 9);
    }

    private static void daysLimits() {
        sentence("days: n DAYS (1 to 100). BEYOND");
        FuelTurns x = new FuelTurns();
        for (int n : new int[] {0, -1, 101, LEAST, MOST}) {
            due(x.days(n), BEYOND);
        }
        due(x.days(1), 1);
        due(x.days(100), 101);
        sentence("days: STATE: it would be above 999");
        due(onDay(899).days(100), 999);
        due(onDay(900).days(100), STATE);
        due(onDay(900).days(99), 999);
        FuelTurns y = onDay(998);
        due(y.days(2), STATE);
        due(y.thing(0), 998);
        due(y.thing(3), 99800);
        due(y.days(1), 999);
        due(y.days(1), STATE);
        due(y.days(100), STATE);
        due(y.days(101), BEYOND);
        due(y.days(0), BEYOND);
        due(y.thing(0), 999);
        due(y.thing(3), 99900);
    }

    private static void dayEnds() {
        sentence("A DAY ends: TODAY is one more; then SCORE .. and RISK by DANGER of the DAY at the HEIGHT");
        FuelTurns x = at(-3, 0);
        x.warn(0, on(1, -3, 0), 11);
        x.warn(0, on(2, -3, 0), 200);
        x.warn(0, on(2, -2, 0), 5000);
        x.warn(0, on(3, -3, 1), 3000);
        due(x.days(1), 1);
        due(x.thing(3), 70);
        due(x.thing(4), 11);
        sentence("n DAYS end, one by one");
        due(x.days(2), 3);
        due(x.thing(3), 210);
        due(x.thing(4), 3211);
        due(x.days(1), 4);
        due(x.thing(4), 3211);
        due(x.thing(2), 0);
        FuelTurns y = onDay(998);
        y.warn(0, on(999, 0, 0), 1000000);
        y.days(1);
        due(y.thing(4), 1000000);
        sentence("DANGER: 1000000 at most (in RISK)");
        FuelTurns z = new FuelTurns();
        for (int i = 0; i < 12; i++) {
            z.warn(1, on(1, 0, 9), 1000000);
        }
        z.days(2);
        due(z.thing(4), 1000000);
    }

    private static void runsLimits() {
        sentence("runs: likewise .. BEYOND. STATE");
        FuelTurns x = new FuelTurns();
        ruleOf(x, "1");
        for (int n : new int[] {0, -1, 101, LEAST, MOST}) {
            due(x.runs(n), BEYOND);
        }
        due(x.thing(1), 0);
        due(x.runs(1), 1);
        due(x.runs(100), 101);
        due(x.thing(1), 9);
        FuelTurns y = onDay(900);
        ruleOf(y, "1");
        due(y.runs(100), STATE);
        due(y.thing(0), 900);
        due(y.thing(1), 0);
        due(y.thing(2), 9);
        due(y.runs(99), 999);
        FuelTurns z = onDay(999);
        ruleOf(z, "1");
        due(z.runs(1), STATE);
        due(z.runs(0), BEYOND);
        due(z.runs(101), BEYOND);
        due(z.thing(1), 0);
        due(onDay(899).runs(100), 999);
    }

    private static void runsMovesAhead() {
        sentence("runs: but ahead of each end it moves BY THE RULE");
        FuelTurns x = new FuelTurns();
        ruleOf(x, "d=1?2:0");
        x.warn(0, on(2, 0, 1), 400000);
        x.warn(0, on(3, 3, 1), 700000);
        due(x.runs(1), 1);
        due(x.thing(1), 0);
        due(x.runs(1), 2);
        due(x.thing(1), 2);
        due(x.thing(3), 180);
        due(x.thing(4), 0);
        due(x.runs(1), 3);
        due(x.thing(1), 4);
        due(x.thing(4), 350000);
        due(x.runs(2), 5);
        due(x.thing(1), 4);
        due(x.thing(2), 5);
        sentence("runs: THE RULE is asked anew ahead of each end, in one call, too");
        FuelTurns z = new FuelTurns();
        ruleOf(z, "t=0?3:t=1?-1:t=2?0-h:1");
        due(z.runs(4), 4);
        due(z.thing(1), 1);
        due(z.thing(2), 2);
        due(z.thing(3), 70 + 80 + 100 + 90);
        sentence("BY THE RULE (without one: 0)");
        FuelTurns y = at(5, 9);
        due(y.runs(100), 100);
        due(y.thing(1), 5);
        due(y.thing(2), 9);
        due(y.thing(3), 5000);
    }

    private static void thingLimits() {
        sentence("thing: 0 TODAY .. 4 RISK. BEYOND");
        FuelTurns x = new FuelTurns();
        for (int what : new int[] {-1, 5, LEAST, MOST}) {
            due(x.thing(what), BEYOND);
        }
        due(x.status(0), 4);
        sentence("SCORE (a long)");
        FuelTurns y = new FuelTurns();
        y.plan(USE, 9999);
        due(waits(y, 999).thing(3), 9989001);
    }
}
