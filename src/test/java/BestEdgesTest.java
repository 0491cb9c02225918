/** Section 4's BEST, HOME and KNOW, section 5 and promises 22 to 28, sentence by sentence at their edges. */
public final class BestEdgesTest extends Given {
    private BestEdgesTest() {
    }

    public static void main(String[] args) {
        bestLimits();
        turnLimits();
        allCanBe();
        oneAheadOfEachEnd();
        harmIsCutByDay();
        daysAbove();
        leastFuel();
        firstByDays();
        whatItIs();
        restLimits();
        homeLimits();
        homeOrder();
        homeByFuel();
        homeDays();
        homeNotAbove();
        knowLimits();
        knowWorth();
        knowCut();
        knowCantBe();
        lifeLimits();
        lifeLots();
        lifeByTheRule();
        lifeAsIf();
        livesLimits();
        livesLots();
        Check.end();
    }

    private static void moves(FuelTurns x, int... want) {
        for (int i = 0; i < want.length; i++) {
            due(x.turn(want.length, i), want[i]);
        }
        due(x.best(want.length, 3), want[0]);
    }

    private static void bestLimits() {
        sentence("best: AHEAD by n DAYS (1 to 8); what 0 to 3. BEYOND");
        FuelTurns x = new FuelTurns();
        for (int wrong : new int[] {0, 9, -1, LEAST, MOST}) {
            due(x.best(wrong, 0), BEYOND);
            due(x.rest(wrong), BEYOND);
            due(x.turn(wrong, 0), BEYOND);
        }
        for (int wrong : new int[] {-1, 4, LEAST, MOST}) {
            due(x.best(1, wrong), BEYOND);
            due(x.best(9, wrong), BEYOND);
        }
        due(x.status(0), 23);
        for (int n = 1; n <= 8; n++) {
            due(x.best(n, 0), 100 * n);
            due(x.best(n, 1), 0);
            due(x.best(n, 2), 0);
            due(x.best(n, 3), 0);
            due(x.rest(n), 100 * n);
        }
    }

    private static void turnLimits() {
        sentence("turn: i 0 to n less 1. BEYOND");
        FuelTurns x = at(3, 9);
        for (int n = 1; n <= 8; n++) {
            for (int i = 0; i < n; i++) {
                due(x.turn(n, i), i == 0 ? -3 : 0);
            }
            for (int wrong : new int[] {-1, n, LEAST, MOST}) {
                due(x.turn(n, wrong), BEYOND);
            }
        }
        due(x.thing(1), 3);
        due(x.thing(2), 9);
    }

    private static void allCanBe() {
        sentence("MOVES .. that all CAN be");
        FuelTurns x = at(3, 3);
        moves(x, -3, 0);
        x.plan(FUEL, 2);
        moves(x, -2, 0);
        x.plan(KEEP, 1);
        moves(x, -1, 0);
        x.plan(KEEP, 2);
        moves(x, 0, 0);
        x.plan(KEEP, 60);
        moves(x, 0, 0);
        x.plan(KEEP, 1);
        x.plan(PRICE, 9);
        x.plan(FUEL, 27);
        moves(x, -2, 0);
        x.plan(FUEL, 28);
        moves(x, -3, 0);
        sentence("MOVES of 24 steps, from one end to the other");
        for (int side = -1; side <= 1; side += 2) {
            FuelTurns y = at(12 * side, 24);
            y.plan(USE, 0);
            y.warn(0, on(1, 3 * side, 9), 1000000);
            y.warn(0, on(1, 12 * side, 9), 1000000);
            y.warn(0, on(1, -8 * side, 3), 1000000);
            moves(y, -24 * side);
            due(y.best(1, 0), 0);
            y.plan(FUEL, 23);
            due(y.best(1, 0), -250000);
            moves(y, -23 * side);
        }
        sentence("MOVES that take all FUEL that there can be");
        FuelTurns w = at(0, 60);
        w.plan(USE, 0);
        for (int day = 1; day <= 3; day++) {
            int side = day == 2 ? -1 : 1;
            w.warn(0, on(day, -2 * side, 9), 1000000);
            w.warn(0, on(day, 10 * side, 2), 1000000);
        }
        moves(w, -12, 24, -24);
        due(w.best(3, 1), 60);
        due(w.best(3, 0), 0);
        w.plan(KEEP, 1);
        due(w.best(3, 1) < 60 ? 1 : 0, 1);
        due(w.best(3, 0) < 0 ? 1 : 0, 1);
        sentence("MOVES lead to a HEIGHT of -12 to 12");
        FuelTurns z = at(12, 60);
        z.plan(USE, 0);
        z.warn(0, on(1, 12, 0), 1000000);
        moves(z, -1);
        FuelTurns u = at(-12, 60);
        u.plan(USE, 0);
        u.warn(0, on(1, -12, 0), 1000000);
        moves(u, 1);
        // What is worth as much at the other end, a DAY later, is not one step further.
        for (int side = -1; side <= 1; side += 2) {
            FuelTurns v = at(12 * side, 60);
            v.plan(USE, 0);
            v.warn(0, on(1, 12 * side, 0), 1000000);
            v.warn(0, on(1, 11 * side, 0), 1000000);
            v.warn(0, on(3, -12 * side, 0), 1000000);
            moves(v, -2 * side, 0, 0);
        }
    }

    private static void oneAheadOfEachEnd() {
        sentence("one ahead of each DAY's end: the DANGER of a DAY is where it is behind its MOVE");
        FuelTurns x = new FuelTurns();
        x.warn(0, on(1, 0, 0), 1000000);
        moves(x, -1);
        moves(x, -1, 1);
        due(x.best(2, 0), 190);
        x.plan(FUEL, 1);
        moves(x, -1, 0);
        due(x.best(2, 0), 180);
        x.plan(FUEL, 0);
        due(x.best(2, 0), 200 - 1000000);
        sentence("the DAYS are those behind TODAY: a WARNING for the DAY behind the n-th changes nothing");
        FuelTurns y = new FuelTurns();
        y.warn(0, on(9, 0, 0), 1000000);
        due(y.best(8, 0), 800);
        due(y.rest(8), 800);
        y.days(1);
        due(y.best(8, 0), 790);
        due(y.rest(8), 800 - 1000000);
        due(y.best(7, 0), 700);
    }

    private static void harmIsCutByDay() {
        sentence("less HARM times DANGER by 1000000 (of each DAY, cut)");
        FuelTurns x = new FuelTurns();
        x.plan(HARM, 1);
        x.warn(0, on(1, 0, 0), 999999);
        x.warn(0, on(2, 0, 0), 999999);
        due(x.rest(2), 200);
        due(x.best(2, 0), 200);
        x.plan(HARM, 2);
        due(x.rest(2), 198);
        x.plan(HARM, 99999999);
        due(x.rest(1), 100 - 99999899);
        x.plan(FUEL, 0);
        due(x.best(2, 0), 200 - 2 * 99999899);
        sentence("HARM (0): DANGER is worth nothing");
        x.plan(FUEL, 9);
        x.plan(HARM, 0);
        due(x.best(2, 0), 200);
        due(x.best(2, 1), 0);
        sentence("HARM 99999999 on each of 8 DAYS is no int");
        FuelTurns y = new FuelTurns();
        y.plan(HARM, 99999999);
        y.plan(FUEL, 0);
        for (int day = 1; day <= 8; day++) {
            y.warn(0, on(day, 0, 0), 1000000);
        }
        due(y.rest(8), 800 - 8L * 99999999);
        due(y.best(8, 0), 800 - 8L * 99999999);
    }

    private static void daysAbove() {
        sentence("DAYS above 999 are as others");
        FuelTurns x = onDay(999);
        x.move(4);
        due(x.rest(8), 480);
        due(x.best(8, 0), 800);
        moves(x, -4, 0, 0, 0, 0, 0, 0, 0);
        FuelTurns y = onDay(997);
        y.warn(0, on(999, 0, 0), 1000000);
        moves(y, 0, -1, 1, 0);
        due(y.best(8, 0), 790);
        due(y.rest(8), 800 - 1000000);
    }

    private static void leastFuel() {
        sentence("of several the one with the least FUEL");
        FuelTurns x = new FuelTurns();
        x.plan(OFF, 0);
        moves(x, 0, 0, 0);
        FuelTurns y = at(5, 9);
        y.plan(OFF, 0);
        moves(y, 0, 0);
        y.plan(OFF, 1);
        moves(y, -5, 0);
        FuelTurns z = at(12, 60);
        z.plan(USE, 10);
        z.plan(OFF, 10);
        moves(z, -12, 0);
        z.plan(FUEL, 11);
        moves(z, 0, 0);
        // 10 less by going aside is as much as HARM's 10 for staying.
        FuelTurns u = new FuelTurns();
        u.plan(HARM, 10);
        u.warn(0, on(1, 0, 0), 1000000);
        moves(u, 0);
        u.plan(HARM, 11);
        moves(u, -1);
    }

    private static void firstByDays() {
        sentence("then the first by DAYS: the MOVE with fewer steps");
        FuelTurns x = new FuelTurns();
        x.plan(USE, 0);
        x.warn(0, on(3, 0, 1), 1000000);
        moves(x, 0, 0, -2, 0);
        sentence("of two the one downwards");
        moves(x, 0, 0, -2);
        FuelTurns y = new FuelTurns();
        y.plan(USE, 0);
        y.warn(0, on(1, 0, 0), 1000000);
        y.warn(0, on(2, 0, 2), 1000000);
        moves(y, -1, -2);
        sentence("fewer steps come ahead of downwards");
        y.warn(0, on(1, -1, 0), 1000000);
        moves(y, 1, 2);
        FuelTurns z = new FuelTurns();
        z.plan(USE, 0);
        z.warn(0, on(1, -1, 1), 1000000);
        moves(z, 1);
        sentence("FUEL comes ahead of the first by DAYS");
        // Up 2 at once stays free on both DAYS; down 1, then 2 more, takes 3.
        FuelTurns u = new FuelTurns();
        u.plan(USE, 0);
        u.warn(0, on(1, 0, 0), 1000000);
        u.warn(0, on(1, 1, 0), 1000000);
        u.warn(0, on(2, -1, 2), 1000000);
        moves(u, 2, 0);
        due(u.best(2, 1), 2);
        sentence("worth comes ahead of FUEL");
        FuelTurns v = at(9, 9);
        v.plan(OFF, 1);
        moves(v, -9);
        due(v.best(1, 0), 100);
        due(v.best(1, 1), 9);
    }

    private static void whatItIs() {
        sentence("best: 1 FUEL that it takes, 2 on how many DAYS it moves, 3 the first MOVE");
        FuelTurns x = new FuelTurns();
        x.plan(PRICE, 9);
        x.plan(FUEL, 60);
        for (int day = 1; day <= 5; day += 2) {
            x.warn(0, on(day, 0, 0), 1000000);
        }
        moves(x, -1, 1, -1, 1, -1, 1);
        due(x.best(6, 1), 54);
        due(x.best(6, 2), 6);
        due(x.best(6, 0), 570);
        // FUEL for 5 steps: there and back once, there and back late, is as good as three times aside.
        x.plan(KEEP, 7);
        due(x.best(6, 1), 36);
        due(x.best(6, 2), 4);
        due(x.best(6, 0), 560);
        due(x.best(1, 1), 9);
        due(x.thing(2), 60);
        due(x.thing(1), 0);
    }

    private static void restLimits() {
        sentence("rest: what it is worth if it does nothing, by n DAYS");
        FuelTurns x = at(12, 60);
        due(x.rest(8), 0);
        x.plan(OFF, 8);
        due(x.rest(8), 32);
        x.warn(0, on(8, 12, 0), 1000000);
        due(x.rest(7), 28);
        due(x.rest(8), 32 - 1000000);
        due(x.thing(0), 0);
        sentence("rest: if it does nothing (BY THE RULE, neither)");
        ruleOf(x, "-1");
        due(x.rest(7), 28);
        due(x.best(1, 3), -12);
    }

    private static void homeLimits() {
        sentence("home: a DANGER (0 to 1000000) and so many DAYS more (0 to 20). BEYOND");
        FuelTurns x = at(1, 9);
        for (int wrong : new int[] {-1, 1000001, LEAST, MOST}) {
            due(x.home(wrong, 0), BEYOND);
        }
        for (int wrong : new int[] {-1, 21, LEAST, MOST}) {
            due(x.home(0, wrong), BEYOND);
        }
        due(x.home(0, 0), 1);
        due(x.home(1000000, 20), 1);
    }

    private static void homeOrder() {
        sentence("home: BEYOND. STATE: it is at HEIGHT 0. NONE (in this order)");
        FuelTurns x = new FuelTurns();
        x.plan(FUEL, 0);
        due(x.home(-1, 0), BEYOND);
        due(x.home(0, 21), BEYOND);
        due(x.home(0, 0), STATE);
        FuelTurns y = at(-1, 0);
        due(y.home(-1, 0), BEYOND);
        due(y.home(0, 0), NONE);
        due(y.status(3), 1);
    }

    private static void homeByFuel() {
        sentence("HOME: (it CAN be by FUEL now)");
        for (int side = -1; side <= 1; side += 2) {
            due(at(12 * side, 12).home(0, 0), 1);
            due(at(12 * side, 11).home(0, 0), NONE);
            FuelTurns x = at(5 * side, 60);
            x.plan(PRICE, 9);
            x.plan(KEEP, 15);
            due(x.home(0, 0), 1);
            x.plan(KEEP, 16);
            due(x.home(0, 0), NONE);
        }
    }

    private static void homeDays() {
        sentence("HOME: the least n (1 to 40)");
        for (int calm = 1; calm <= 12; calm++) {
            FuelTurns x = at(1, 9);
            for (int day = 1; day < calm; day++) {
                x.warn(0, on(day, 0, 0), 1);
            }
            due(x.home(0, 20), calm);
        }
        // DANGER on DAYS 4, 8, .. 48: never calm for four DAYS until the 49th.
        FuelTurns y = at(1, 9);
        for (int day = 4; day <= 48; day += 4) {
            y.warn(0, on(day, 0, 0), 1);
        }
        due(y.home(0, 3), NONE);
        y.days(8);
        due(y.home(0, 3), NONE);
        y.days(1);
        due(y.home(0, 3), 40);
        due(y.home(0, 20), 40);
        y.days(1);
        due(y.home(0, 20), 39);
        sentence("on that and the next DAYS (as many as told)");
        FuelTurns z = at(-1, 9);
        z.warn(0, on(22, 0, 0), 1);
        due(z.home(0, 20), 1);
        z.warn(0, on(21, 0, 0), 1);
        due(z.home(0, 19), 1);
        due(z.home(0, 20), 23);
        z.warn(0, on(1, 0, 0), 1);
        due(z.home(0, 0), 2);
        due(z.home(0, 18), 2);
        due(z.home(0, 19), 23);
        sentence("a MOVE on the n-th DAY ahead is ahead of its end: TODAY's DANGER doesn't count");
        FuelTurns u = at(1, 9);
        u.warn(0, on(1, 0, 0), 1);
        due(u.home(0, 0), 2);
        u.days(1);
        due(u.home(0, 0), 1);
        sentence("HOME behind DAY 999, for which there is no WARNING");
        FuelTurns v = at(1, 9);
        waits(v, 998);
        v.warn(0, on(999, 0, 0), 1);
        due(v.home(0, 20), 2);
        v.days(1);
        due(v.home(0, 20), 1);
    }

    private static void homeNotAbove() {
        sentence("leads to no DANGER above a told one");
        FuelTurns x = at(2, 9);
        x.warn(0, on(1, 0, 0), 500);
        due(x.home(499, 0), 2);
        due(x.home(500, 0), 1);
        x.warn(1, on(2, 0, 0), 1000000);
        due(x.home(999999, 1), 3);
        due(x.home(1000000, 20), 1);
        sentence("DANGER at HEIGHT 0, not where it is");
        FuelTurns y = at(2, 9);
        y.warn(0, on(1, 2, 1), 1000000);
        due(y.home(0, 20), 1);
    }

    private static void knowLimits() {
        sentence("know: KNOW by n DAYS. BEYOND. STATE: the WARNING isn't OPEN (in this order)");
        FuelTurns x = warned(0, on(2, 0, 0), 300000);
        for (int wrong : new int[] {0, 9, -1, LEAST, MOST}) {
            due(x.know(0, 60, wrong), BEYOND);
        }
        for (int wrong : new int[] {-1, 1, 12, LEAST, MOST}) {
            due(x.know(wrong, 60, 1), BEYOND);
        }
        for (int wrong : new int[] {49, 101, LEAST, MOST}) {
            due(x.know(0, wrong, 1), BEYOND);
        }
        due(x.know(0, 100, 1), 0);
        x.days(1);
        due(x.know(0, 50, 8), 0);
        // Sure: 0.3 by 10 less aside, 0.7 as told: 3 of the 10 that it gives up now are lost.
        due(x.know(0, 100, 1), 7);
        due(x.know(0, 100, 8), 7);
        x.days(1);
        due(x.know(0, 60, 1), STATE);
        due(x.know(0, 49, 1), BEYOND);
        due(x.know(0, 60, 9), BEYOND);
        due(x.know(1, 60, 1), BEYOND);
        due(x.of(0, 4), 300000);
        due(x.of(0, 5), 0);
    }

    private static void knowWorth() {
        sentence("KNOW: worth for 1 times m, and worth for 0 times 1000000 less m, together by 1000000");
        // FUEL for no MOVE: a LOOK changes nothing of what will be.
        FuelTurns x = warned(0, on(1, 0, 0), 250000);
        x.plan(FUEL, 0);
        due(x.know(0, 100, 1), 0);
        due(x.know(0, 75, 8), 0);
        // c 0.2, s 75: m 0.35; real: 0.15 by 0.35 is 428571; else 0.05 by 0.65 is 76923. HARM 40, 10 less aside.
        FuelTurns y = warned(0, on(1, 0, 0), 200000);
        y.plan(HARM, 40);
        due(y.best(1, 0), 92);
        // Real: aside, 90. Else: HARM 3, 97. 0.35 * 90 + 0.65 * 97 is 94.55.
        due(y.know(0, 75, 1), 2);
        due(y.know(0, 50, 1), 0);
        due(y.know(0, 100, 1), 6);
    }

    private static void knowCut() {
        sentence("KNOW: quotients are cut (towards 0, below 0, too)");
        FuelTurns x = warned(0, on(1, 0, 0), 500000);
        x.plan(FUEL, 0);
        x.plan(USE, 0);
        x.plan(HARM, 3);
        due(x.best(1, 0), -1);
        due(x.know(0, 100, 1), 0);
        x.plan(HARM, 1);
        due(x.best(1, 0), 0);
        due(x.know(0, 100, 1), 0);
        // Without a LOOK 100 less 1 (1.5, cut); with one 97 or 100, which is 98.5, cut.
        sentence("KNOW: may be below 0, as quotients are cut");
        FuelTurns z = warned(0, on(1, 0, 0), 500000);
        z.plan(FUEL, 0);
        z.plan(HARM, 3);
        due(z.best(1, 0), 99);
        due(z.know(0, 100, 1), -1);
        // One step up costs 1 (1.02, cut), staying 3 or 0, half and half: -0.5 is cut to 0 before -1 goes off.
        sentence("KNOW: .. together by 1000000; .. less what it is worth now (in this order)");
        FuelTurns u = warned(0, on(1, 0, 0), 500000);
        u.warn(0, on(1, 1, 0), 340000);
        u.warn(0, on(1, -1, 0), 1000000);
        u.plan(FUEL, 1);
        u.plan(USE, 0);
        u.plan(HARM, 3);
        due(u.best(1, 0), -1);
        due(u.know(0, 100, 1), 1);
        // m is (500001 * 51 + 499999 * 49) by 100: 500000.02; by 499999.
        sentence("KNOW: m by 100, cut");
        FuelTurns y = warned(0, on(1, 0, 0), 500001);
        y.plan(FUEL, 0);
        y.plan(USE, 0);
        y.plan(HARM, 99999999);
        long real = 500001L * 51 * 1000000 / (500001L * 51 + 499999L * 49);
        long not = 500001L * 49 * 1000000 / (500001L * 49 + 499999L * 51);
        long ifReal = -(99999999L * real / 1000000);
        long ifNot = -(99999999L * not / 1000000);
        long now = -(99999999L * 500001 / 1000000);
        due(y.know(0, 51, 1), (ifReal * 500000 + ifNot * 500000) / 1000000 - now);
    }

    private static void knowCantBe() {
        sentence("KNOW: a LOOK that can't be: as without one");
        for (int chance = 0; chance <= 1000000; chance += 1000000) {
            FuelTurns x = warned(0, on(1, 0, 0), chance);
            due(x.know(0, 100, 1), 0);
            due(x.know(0, 100, 8), 0);
            due(x.know(0, 99, 8), 0);
            due(x.know(0, 50, 1), 0);
            due(x.status(-1), 0);
        }
    }

    private static void lifeLimits() {
        sentence("life: n DAYS (1 to 100). BEYOND: n");
        FuelTurns x = new FuelTurns();
        for (int wrong : new int[] {0, 101, -1, LEAST, MOST}) {
            due(x.life(5, wrong), BEYOND);
        }
        for (int lots : new int[] {LEAST, -1, 0, 1, MOST}) {
            due(x.life(lots, 1), 1);
            due(x.life(lots, 100), 100);
        }
        sentence("LIFE goes on behind DAY 999");
        FuelTurns y = onDay(999);
        due(y.life(7, 100), 100);
        due(y.lives(7, 50, 100), 50);
        due(y.thing(0), 999);
    }

    /** LOTS by numbers that can't go round. */
    private static int lotOf(int lots, int day) {
        java.math.BigInteger l = java.math.BigInteger.valueOf(lots);
        for (int i = 0; i < day; i++) {
            l = l.multiply(java.math.BigInteger.valueOf(1103515245)).add(java.math.BigInteger.valueOf(12345));
        }
        return (l.shiftRight(16).intValue() & 65535) % 10000;
    }

    private static void lifeLots() {
        sentence("STRUCK if the rest of L's highest 16 bits by 10000 is less than DANGER by 100");
        for (int lots : new int[] {LEAST, -2, -1, 0, 1, 2, 65536, 123456789, MOST}) {
            for (int day = 1; day <= 100; day += 33) {
                int lot = lotOf(lots, day);
                due(warned(0, on(day, 0, 0), 100 * lot).life(lots, 100), 100);
                due(warned(0, on(day, 0, 0), Math.min(1000000, 100 * lot + 99)).life(lots, 100), 100);
                due(warned(0, on(day, 0, 0), 100 * lot + 100).life(lots, 100), day);
            }
        }
        sentence("DANGER 0 to 99 strikes none, 1000000 strikes all");
        for (int lots = -3; lots <= 3; lots++) {
            due(warned(0, on(1, 0, 0), 99).life(lots, 1), 1);
            due(warned(0, on(1, 0, 0), 99).lives(lots, 1, 1), 1);
            due(warned(0, on(1, 0, 0), 1000000).lives(lots, 1, 1), 0);
        }
        sentence("How many DAYS it lasts (that on which it is STRUCK counts)");
        FuelTurns x = warned(0, on(4, 0, 0), 1000000);
        due(x.life(9, 3), 3);
        due(x.life(9, 4), 4);
        due(x.life(9, 5), 4);
        due(x.life(9, 100), 4);
        due(x.lives(9, 50, 3), 50);
        due(x.lives(9, 50, 4), 0);
        FuelTurns y = warned(0, on(100, 0, 0), 1000000);
        due(y.life(9, 100), 100);
        due(y.lives(9, 50, 100), 0);
        due(y.lives(9, 50, 99), 50);
    }

    private static void lifeByTheRule() {
        sentence("LIFE: ahead of each end it moves BY THE RULE");
        FuelTurns x = warned(0, on(1, 0, 0), 1000000);
        x.warn(0, on(2, 1, 0), 1000000);
        due(x.life(5, 9), 1);
        ruleOf(x, "1");
        due(x.life(5, 9), 9);
        ruleOf(x, "d=1?1-h:0");
        due(x.life(5, 9), 2);
        x.plan(FUEL, 0);
        due(x.life(5, 9), 1);
        sentence("LIFE: FUEL goes with its MOVES");
        FuelTurns y = new FuelTurns();
        y.plan(FUEL, 2);
        for (int day = 1; day <= 5; day++) {
            y.warn(0, on(day, 2, 0), 1000000);
        }
        ruleOf(y, "t<1?1:t=3?1:0");
        due(y.life(5, 9), 4);
        y.plan(FUEL, 1);
        due(y.life(5, 9), 9);
        sentence("LIFE: t goes on behind 999");
        FuelTurns z = onDay(999);
        ruleOf(z, "t>998?1:0");
        due(z.life(5, 100), 100);
        due(z.thing(1), 0);
    }

    private static void lifeAsIf() {
        sentence("LIFE: as if from now on");
        FuelTurns x = warned(0, on(3, 2, 0), 1000000);
        ruleOf(x, "1");
        due(x.life(5, 100), 100);
        due(x.lives(5, 50, 100), 50);
        due(x.thing(0), 0);
        due(x.thing(1), 0);
        due(x.thing(2), 9);
        due(x.thing(3), 0);
        due(x.thing(4), 0);
        due(x.says(0), 1);
        due(x.life(5, 100), 100);
    }

    private static void livesLimits() {
        sentence("lives: so many LIVES (1 to 50) .. n DAYS (1 to 100). BEYOND");
        FuelTurns x = new FuelTurns();
        for (int wrong : new int[] {0, 51, -1, LEAST, MOST}) {
            due(x.lives(5, wrong, 1), BEYOND);
        }
        for (int wrong : new int[] {0, 101, -1, LEAST, MOST}) {
            due(x.lives(5, 1, wrong), BEYOND);
        }
        due(x.lives(5, 51, 101), BEYOND);
        due(x.lives(5, 1, 1), 1);
        due(x.lives(5, 50, 100), 50);
        due(x.lives(LEAST, 1, 100), 1);
        due(x.lives(MOST, 50, 1), 50);
    }

    private static void livesLots() {
        sentence("lives: by LOTS l, l + 1, .. (ints that go round)");
        for (int l : new int[] {0, -25, MOST - 24, LEAST}) {
            FuelTurns x = warned(0, on(2, 0, 0), 400000);
            x.warn(0, on(5, 0, 0), 300000);
            int last = 0;
            for (int many = 1; many <= 50; many++) {
                last += x.life(l + many - 1, 6) == 6 ? 1 : 0;
                due(x.lives(l, many, 6), last);
            }
        }
        sentence("lives: that is STRUCK on the n-th DAY doesn't last n DAYS");
        due(warned(0, on(1, 0, 0), 1000000).lives(3, 50, 1), 0);
    }
}
