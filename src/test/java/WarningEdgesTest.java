/** Section 2 and promises 8 to 16, sentence by sentence at their edges. */
public final class WarningEdgesTest extends Given {
    private WarningEdgesTest() {
    }

    public static void main(String[] args) {
        warnKinds();
        warnOf();
        warnDay();
        warnChance();
        warnFull();
        ofLimits();
        ofOpen();
        asKinds();
        struckPlain();
        struckClose();
        struckPact();
        struckSwarm();
        struckOwn();
        struckGhost();
        struckLimits();
        lookLimits();
        lookBehind();
        lookCantBe();
        lookNotOpen();
        lookCounts();
        thinkOnly();
        dangerLimits();
        dangerTogether();
        safestLimits();
        safestNearest();
        openSet();
        Check.end();
    }

    private static void warnKinds() {
        sentence("warn: BEYOND: kind");
        FuelTurns x = new FuelTurns();
        for (int kind : new int[] {-1, 6, LEAST, MOST}) {
            due(x.warn(kind, on(1, 0, 0), 5), BEYOND);
        }
        due(x.count(0), 0);
        for (int kind = 0; kind < 6; kind++) {
            due(x.warn(kind, on(1, 0, 0), 5), kind);
            due(x.of(kind, 0), kind);
        }
    }

    private static void warnOf() {
        sentence("of is 10000 * DAY + 100 * (AT and 12) + WIDTH");
        FuelTurns x = new FuelTurns();
        int[] wrong = {0, -1, LEAST, MOST, 9999, 10000 * 1 + 2500, 10000 * 1 + 9900, 10000 * 1 + 10, 10000 * 1 + 99,
            10000 * 1 + 2410, -on(1, 0, 0), -10000, 10000000, on(1000, 0, 0), on(1000, -12, 0), on(9999, 0, 0), 2009,
            LEAST + on(1, 0, 0)};
        for (int of : wrong) {
            due(x.warn(0, of, 5), BEYOND);
        }
        due(x.status(0), wrong.length);
        int[][] right = {{1, -12, 0}, {1, -12, 9}, {1, 12, 0}, {1, 12, 9}, {999, -12, 0}, {999, 12, 9}, {500, 0, 5}};
        for (int i = 0; i < right.length; i++) {
            due(x.warn(0, on(right[i][0], right[i][1], right[i][2]), 5), i);
            for (int what = 0; what < 3; what++) {
                due(x.of(i, 1 + what), right[i][what]);
            }
        }
        due(on(1, -12, 0), 10000);
        due(on(999, 12, 9), 9992409);
    }

    private static void warnDay() {
        sentence("warn: BEYOND (DAY not later than TODAY, too)");
        FuelTurns x = onDay(7);
        due(x.warn(0, on(6, 0, 0), 5), BEYOND);
        due(x.warn(0, on(7, 0, 0), 5), BEYOND);
        due(x.warn(0, on(0, 0, 0), 5), BEYOND);
        due(x.warn(0, on(8, 0, 0), 5), 0);
        FuelTurns y = onDay(998);
        due(y.warn(0, on(998, 0, 0), 5), BEYOND);
        due(y.warn(0, on(1000, 0, 0), 5), BEYOND);
        due(y.warn(0, on(999, 0, 0), 5), 0);
        FuelTurns z = onDay(999);
        due(z.warn(0, on(999, 0, 0), 5), BEYOND);
        due(z.warn(0, on(1000, 0, 0), 5), BEYOND);
        due(z.count(0), 0);
    }

    private static void warnChance() {
        sentence("a CHANCE in millionths (0 to 1000000)");
        FuelTurns x = new FuelTurns();
        for (int chance : new int[] {-1, 1000001, LEAST, MOST}) {
            due(x.warn(0, on(1, 0, 0), chance), BEYOND);
        }
        due(x.warn(0, on(1, 0, 0), 0), 0);
        due(x.of(0, 4), 0);
        due(x.warn(0, on(1, 0, 0), 1000000), 1);
        due(x.of(1, 4), 1000000);
    }

    private static void warnFull() {
        sentence("WARNINGS (at most 12). FULL");
        FuelTurns x = new FuelTurns();
        for (int i = 0; i < 12; i++) {
            due(x.warn(i % 6, on(1 + i, i, i % 10), i), i);
        }
        due(x.warn(0, on(1, 0, 0), 5), FULL);
        due(x.count(0), 12);
        sentence("warn: BEYOND: kind, of, chance. FULL (in this order)");
        due(x.warn(6, on(1, 0, 0), 5), BEYOND);
        due(x.warn(0, on(0, 0, 0), 5), BEYOND);
        due(x.warn(0, on(1, 0, 0), 1000001), BEYOND);
        due(x.status(0), 3);
        due(x.status(1), 1);
        sentence("WARNINGS that aren't OPEN count among the 12");
        x.days(20);
        due(x.open(), 0);
        due(x.warn(0, on(30, 0, 0), 5), FULL);
        for (int i = 0; i < 12; i++) {
            due(x.of(i, 0), i % 6);
            due(x.of(i, 1), 1 + i);
            due(x.of(i, 2), i);
            due(x.of(i, 3), i % 10);
            due(x.of(i, 4), i);
        }
    }

    private static void ofLimits() {
        sentence("of: BEYOND");
        FuelTurns x = new FuelTurns();
        due(x.of(0, 0), BEYOND);
        x.warn(0, on(1, 0, 0), 5);
        for (int wrong : new int[] {-1, 1, 12, LEAST, MOST}) {
            due(x.of(wrong, 0), BEYOND);
        }
        for (int wrong : new int[] {-1, 7, LEAST, MOST}) {
            due(x.of(0, wrong), BEYOND);
        }
        due(x.of(1, 7), BEYOND);
        due(x.status(0), 11);
        for (int i = 1; i < 12; i++) {
            x.warn(0, on(1, 0, 0), 5 + i);
        }
        due(x.of(11, 4), 16);
        due(x.of(12, 4), BEYOND);
    }

    private static void ofOpen() {
        sentence("OPEN are WARNINGS for a later DAY than TODAY");
        FuelTurns x = warned(0, on(2, 0, 0), 5);
        due(x.of(0, 6), 1);
        x.days(1);
        due(x.of(0, 6), 1);
        due(x.open(), 1);
        due(x.count(1), 1);
        x.days(1);
        due(x.of(0, 6), 0);
        due(x.open(), 0);
        due(x.count(1), 0);
    }

    private static void asKinds() {
        sentence("1 CLOSE, 2 PACT, 3 SWARM under WARNING, 4 OWN under PACT, 5 GHOST under CLOSE");
        String[] are = {"0", "01", "02", "03", "024", "015"};
        FuelTurns x = new FuelTurns();
        for (int kind = 0; kind < 6; kind++) {
            x.warn(kind, on(1, 0, 0), 7 * kind);
        }
        for (int kind = 0; kind < 6; kind++) {
            for (int asked = 0; asked < 6; asked++) {
                due(x.as(kind, asked), are[kind].indexOf('0' + asked) >= 0 ? 7 * kind : KIND);
            }
        }
        sentence("as: BEYOND: no such WARNING, kind. KIND (in this order)");
        for (int wrong : new int[] {-1, 6, LEAST, MOST}) {
            due(x.as(wrong, 0), BEYOND);
            due(x.as(0, wrong), BEYOND);
            due(x.as(wrong, 4), BEYOND);
        }
        due(x.as(6, 6), BEYOND);
        sentence("as (of one that isn't OPEN)");
        x.days(1);
        due(x.as(5, 1), 35);
        due(x.as(5, 2), KIND);
    }

    /** STRUCK by a kind AT 0 at HEIGHTS 0, 1, .. and as many downwards. */
    private static void strikes(int kind, int width, int chance, int... want) {
        FuelTurns x = warned(kind, on(1, 0, width), chance);
        for (int d = 0; d < want.length; d++) {
            due(x.struck(0, d), want[d]);
            due(x.struck(0, -d), want[d]);
        }
    }

    private static void struckPlain() {
        sentence("WARNING: CHANCE times (WIDTH and 1, less d) by (WIDTH and 1), 0 if d is above WIDTH");
        strikes(0, 0, 1000000, 1000000, 0, 0);
        strikes(0, 1, 999999, 999999, 499999, 0, 0);
        strikes(0, 9, 1000000, 1000000, 900000, 800000, 700000, 600000, 500000, 400000, 300000, 200000, 100000, 0, 0, 0);
        strikes(0, 9, 9, 9, 8, 7, 6, 5, 4, 3, 2, 1, 0, 0);
        strikes(0, 2, 0, 0, 0, 0, 0);
        strikes(0, 2, 1, 1, 0, 0, 0);
        strikes(0, 2, 2, 2, 1, 0, 0);
        strikes(0, 2, 3, 3, 2, 1, 0);
        sentence("d is how far that is from AT");
        FuelTurns x = warned(0, on(1, -12, 9), 1000000);
        x.warn(3, on(1, 12, 9), 1000000);
        due(x.struck(0, -12), 1000000);
        due(x.struck(0, -3), 100000);
        due(x.struck(0, -2), 0);
        due(x.struck(0, 12), 0);
        due(x.struck(1, -7), 100000);
        due(x.struck(1, -8), 0);
        due(x.struck(1, -12), 0);
    }

    private static void struckClose() {
        sentence("CLOSE: a WARNING's, and half of it, 1000000 at most");
        strikes(1, 0, 666666, 999999, 0);
        strikes(1, 0, 666667, 1000000, 0);
        strikes(1, 0, 666668, 1000000, 0);
        strikes(1, 0, 1000000, 1000000, 0);
        strikes(1, 0, 3, 4, 0);
        strikes(1, 0, 1, 1, 0);
        strikes(1, 0, 0, 0, 0);
        strikes(1, 1, 1000000, 1000000, 750000, 0);
        strikes(1, 1, 7, 10, 4, 0);
    }

    private static void struckPact() {
        sentence("PACT: as a WARNING, with d 1 more if d isn't 0");
        strikes(2, 0, 1000000, 1000000, 0, 0);
        strikes(2, 1, 1000000, 1000000, 0, 0);
        strikes(2, 2, 900000, 900000, 300000, 0, 0);
        strikes(2, 9, 1000000, 1000000, 800000, 700000, 600000, 500000, 400000, 300000, 200000, 100000, 0, 0);
    }

    private static void struckSwarm() {
        sentence("SWARM: as a WARNING, with d by 2");
        strikes(3, 0, 1000000, 1000000, 1000000, 0, 0);
        strikes(3, 1, 999999, 999999, 999999, 499999, 499999, 0, 0);
        FuelTurns x = warned(3, on(1, -12, 9), 1000000);
        due(x.struck(0, 7), 100000);
        due(x.struck(0, 8), 0);
        due(x.struck(0, 6), 100000);
        due(x.struck(0, 5), 200000);
        due(x.struck(0, 12), 0);
    }

    private static void struckOwn() {
        sentence("OWN: half a PACT's");
        strikes(4, 0, 1000000, 500000, 0);
        strikes(4, 0, 1, 0, 0);
        strikes(4, 0, 3, 1, 0);
        strikes(4, 1, 1000000, 500000, 0, 0);
        strikes(4, 2, 900000, 450000, 150000, 0);
        strikes(4, 2, 9, 4, 1, 0);
    }

    private static void struckGhost() {
        sentence("GHOST: a CLOSE one's by 4");
        strikes(5, 0, 1000000, 250000, 0);
        strikes(5, 0, 666667, 250000, 0);
        strikes(5, 0, 666666, 249999, 0);
        strikes(5, 0, 5, 1, 0);
        strikes(5, 0, 2, 0, 0);
        strikes(5, 0, 3, 1, 0);
        strikes(5, 1, 16, 6, 3, 0);
    }

    private static void struckLimits() {
        sentence("struck: BEYOND");
        FuelTurns x = new FuelTurns();
        due(x.struck(0, 0), BEYOND);
        x.warn(0, on(1, 12, 0), 5);
        for (int wrong : new int[] {-13, 13, LEAST, MOST}) {
            due(x.struck(0, wrong), BEYOND);
            due(x.struck(wrong, 0), BEYOND);
        }
        due(x.struck(1, 0), BEYOND);
        due(x.struck(-1, 0), BEYOND);
        due(x.struck(0, 12), 5);
        due(x.struck(0, -12), 0);
        x.days(1);
        due(x.struck(0, 12), 5);
    }

    private static void lookLimits() {
        sentence("a SURENESS s (50 to 100)");
        FuelTurns x = warned(0, on(1, 0, 0), 300000);
        for (int wrong : new int[] {49, 101, 0, -1, LEAST, MOST}) {
            due(x.look(0, wrong, true), BEYOND);
            due(x.look(0, wrong, false), BEYOND);
            due(x.think(0, wrong, true), BEYOND);
            due(x.think(0, wrong, false), BEYOND);
            due(x.know(0, wrong, 1), BEYOND);
        }
        due(x.of(0, 5), 0);
        due(x.think(0, 50, true), 300000);
        due(x.think(0, 50, false), 300000);
        due(x.think(0, 100, true), 1000000);
        due(x.think(0, 100, false), 0);
        sentence("look, think: BEYOND (no such WARNING)");
        for (int wrong : new int[] {-1, 1, 12, LEAST, MOST}) {
            due(x.look(wrong, 60, true), BEYOND);
            due(x.think(wrong, 60, false), BEYOND);
        }
        due(new FuelTurns().look(0, 60, true), BEYOND);
        due(new FuelTurns().think(0, 60, true), BEYOND);
    }

    /** 1 as a LOOK and as a thought; both ways. */
    private static void behind(int chance, int sureness, int ifReal, int ifNot) {
        for (int real = 0; real < 2; real++) {
            FuelTurns x = warned(0, on(1, 0, 0), chance);
            int want = real == 1 ? ifReal : ifNot;
            due(x.think(0, sureness, real == 1), want);
            due(x.of(0, 4), chance);
            due(x.look(0, sureness, real == 1), want);
            due(x.of(0, 4), want < 0 ? chance : want);
            due(x.of(0, 5), want < 0 ? 0 : 1);
        }
    }

    private static void lookBehind() {
        sentence("CHANCE c becomes c s by what c s and (1000000 less c)(100 less s) are together, in millionths");
        // 0.4 * 0.9 by 0.36 + 0.06, and 0.4 * 0.1 by 0.04 + 0.54.
        behind(400000, 90, 857142, 68965);
        behind(500000, 75, 750000, 250000);
        behind(999999, 50, 999999, 999999);
        behind(1, 50, 1, 1);
        // 51 millionths by 51 + 999999 * 49 is 1.04 millionths, 49 by 49 + 999999 * 51 is 0.96.
        behind(1, 51, 1, 0);
        behind(1, 99, 98, 0);
        behind(999999, 99, 999999, 999901);
        behind(1, 100, 1000000, 0);
        behind(999999, 100, 1000000, 0);
        behind(0, 99, 0, 0);
        behind(1000000, 99, 1000000, 1000000);
        behind(0, 50, 0, 0);
        behind(1000000, 50, 1000000, 1000000);
    }

    private static void lookCantBe() {
        sentence("if what it is by is 0 the LOOK can't be (STATE)");
        behind(0, 100, STATE, 0);
        behind(1000000, 100, 1000000, STATE);
    }

    private static void lookNotOpen() {
        sentence("look: BEYOND. STATE: it isn't OPEN, or the LOOK can't be (in this order)");
        FuelTurns x = warned(0, on(2, 0, 0), 300000);
        x.days(1);
        due(x.look(0, 75, true), 562500);
        x.days(1);
        due(x.look(0, 75, true), STATE);
        due(x.think(0, 75, true), STATE);
        due(x.look(0, 75, false), STATE);
        due(x.think(0, 75, false), STATE);
        due(x.look(0, 49, true), BEYOND);
        due(x.think(0, 101, true), BEYOND);
        due(x.look(1, 75, true), BEYOND);
        due(x.of(0, 4), 562500);
        due(x.of(0, 5), 1);
        due(x.status(0), 3);
        due(x.status(4), 4);
    }

    private static void lookCounts() {
        sentence("Each WARNING counts its LOOKS");
        FuelTurns x = new FuelTurns();
        for (int i = 0; i < 12; i++) {
            x.warn(0, on(1, 0, 0), 500000);
        }
        for (int i = 0; i < 12; i++) {
            for (int j = 0; j < i; j++) {
                x.look(i, 60, j % 2 == 0);
            }
        }
        for (int i = 0; i < 12; i++) {
            due(x.of(i, 5), i);
        }
        due(x.count(2), 66);
    }

    private static void thinkOnly() {
        sentence("think: what CHANCE would be behind such a LOOK");
        FuelTurns x = warned(5, on(1, 0, 0), 400000);
        due(x.think(0, 90, true), 857142);
        due(x.think(0, 90, true), 857142);
        due(x.of(0, 4), 400000);
        due(x.of(0, 5), 0);
        due(x.count(2), 0);
    }

    private static void dangerLimits() {
        sentence("danger: DANGER on a DAY (0 to 999) at a HEIGHT. BEYOND");
        FuelTurns x = warned(0, on(999, 12, 0), 8);
        x.warn(0, on(999, -12, 0), 9);
        for (int wrong : new int[] {-1, 1000, LEAST, MOST}) {
            due(x.danger(wrong, 0), BEYOND);
        }
        for (int wrong : new int[] {-13, 13, LEAST, MOST}) {
            due(x.danger(5, wrong), BEYOND);
        }
        due(x.danger(1000, 13), BEYOND);
        due(x.status(-1), 9);
        due(x.danger(0, 12), 0);
        due(x.danger(0, -12), 0);
        due(x.danger(999, 12), 8);
        due(x.danger(999, -12), 9);
        due(x.danger(998, 12), 0);
    }

    private static void dangerTogether() {
        sentence("DANGER: STRUCK by all WARNINGS for that DAY together, 1000000 at most");
        FuelTurns x = new FuelTurns();
        due(x.danger(1, 0), 0);
        x.warn(0, on(1, 0, 0), 999999);
        due(x.danger(1, 0), 999999);
        x.warn(0, on(1, 0, 0), 1);
        due(x.danger(1, 0), 1000000);
        x.warn(0, on(1, 0, 0), 1);
        due(x.danger(1, 0), 1000000);
        for (int i = 3; i < 11; i++) {
            x.warn(1, on(1, 0, 9), 1000000);
        }
        x.warn(0, on(2, 0, 0), 77);
        due(x.danger(1, 0), 1000000);
        due(x.danger(1, 1), 1000000);
        due(x.danger(1, 10), 0);
        due(x.danger(2, 0), 77);
        due(x.danger(0, 0), 0);
        sentence("DANGER on a DAY that is over");
        x.days(2);
        due(x.danger(1, 0), 1000000);
        due(x.danger(2, 0), 77);
    }

    private static void safestLimits() {
        sentence("safest: BEYOND");
        FuelTurns x = at(4, 9);
        for (int wrong : new int[] {-1, 1000, LEAST, MOST}) {
            due(x.safest(wrong), BEYOND);
        }
        due(x.safest(0), 4);
        due(x.safest(999), 4);
    }

    private static void safestNearest() {
        sentence("safest: the HEIGHT nearest to the THING's with the least DANGER; of two the lower one");
        FuelTurns x = warned(0, on(1, 0, 4), 1000);
        due(x.safest(1), -5);
        FuelTurns y = at(1, 0);
        y.warn(0, on(1, 0, 4), 1000);
        due(y.safest(1), 5);
        y.warn(0, on(2, 1, 0), 1000);
        due(y.safest(2), 0);
        y.warn(0, on(2, 0, 0), 1000);
        due(y.safest(2), 2);
        y.warn(0, on(2, 2, 0), 1000);
        due(y.safest(2), -1);
        FuelTurns z = at(-12, 0);
        z.warn(0, on(1, -12, 9), 1000);
        z.warn(0, on(1, 2, 9), 1000);
        due(z.safest(1), 12);
        FuelTurns u = at(12, 0);
        for (int i = 0; i < 5; i++) {
            u.warn(3, on(1, 12 - 4 * i, 1), 1000);
        }
        u.warn(0, on(1, -8, 3), 1000);
        due(u.safest(1), -12);
        due(u.safest(2), 12);
        u.warn(0, on(2, 12, 0), 1);
        due(u.safest(2), 11);
        z.warn(0, on(2, -12, 0), 1);
        due(z.safest(2), -11);
        sentence("safest: on a DAY (that is over, too)");
        FuelTurns w = warned(0, on(1, 0, 2), 1000);
        w.days(1);
        due(w.safest(1), -3);
        w.days(1);
        due(w.safest(1), -3);
        due(w.safest(2), 0);
        sentence("safest (no HEIGHT is without DANGER)");
        FuelTurns v = at(3, 0);
        v.warn(3, on(1, 0, 9), 1000000);
        due(v.safest(1), 12);
        v.warn(3, on(1, 0, 9), 1000000);
        due(v.safest(1), 12);
        v.warn(0, on(1, 4, 9), 1000000);
        due(v.safest(1), -12);
        v.warn(3, on(1, 0, 9), 1000000);
        due(v.danger(1, -12), 1000000);
        due(v.safest(1), 3);
    }

    private static void openSet() {
        sentence("open: OPEN WARNINGS, as a set");
        FuelTurns x = new FuelTurns();
        due(x.open(), 0);
        int set = 0;
        for (int i = 0; i < 12; i++) {
            x.warn(0, on(12 - i, 0, 0), 0);
            set |= 1 << i;
            due(x.open(), set);
        }
        for (int today = 1; today <= 12; today++) {
            x.days(1);
            set &= ~(1 << 12 - today);
            due(x.open(), set);
            due(x.count(1), 12 - today);
            due(x.count(5), today == 12 ? -1 : today + 1);
        }
    }
}
