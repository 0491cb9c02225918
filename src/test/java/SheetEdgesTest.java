/** Section 6 and promises 32 to 36, sentence by sentence at their edges. */
public final class SheetEdgesTest extends Given {
    private static final int[] BITS = {8, 16, 64};

    private SheetEdgesTest() {
    }

    public static void main(String[] args) {
        sheetLimits();
        sheetOrder();
        sheetIsNew();
        sheetMissing();
        writeFindings();
        writeBits();
        writeNoFinding();
        copyFindings();
        copyLimits();
        copyNone();
        copyAsTheyWere();
        turnsFindings();
        turnsLeftOut();
        turnsTillTheLastDay();
        readFindings();
        readPlaces();
        readDays();
        Check.end();
    }

    private static void sheetLimits() {
        sentence("SHEETS 0 to 3");
        FuelTurns x = new FuelTurns();
        for (int wrong : new int[] {-1, 4, LEAST, MOST}) {
            due(x.sheet(wrong, 8, 1), BEYOND);
            due(x.write(wrong, 0, 1), BEYOND);
            due(x.turns(wrong), BEYOND);
            due(x.read(wrong), BEYOND);
            due(x.copy(wrong, 0, 0, 0, 0), BEYOND);
            due(x.copy(0, 0, wrong, 0, 0), BEYOND);
        }
        for (int s = 0; s < 4; s++) {
            due(x.sheet(s, 8, s + 1), s + 1);
        }
        sentence("of 8, 16 or 64 bits; bits 0");
        for (int bits = -70; bits <= 140; bits++) {
            boolean is = bits == 0 || bits == 8 || bits == 16 || bits == 64;
            due(x.sheet(0, bits, 3), !is ? BEYOND : bits == 0 ? 0 : 3);
        }
        due(x.sheet(0, LEAST, 3), BEYOND);
        due(x.sheet(0, MOST, 3), BEYOND);
        sentence("rows of at most 40 numbers");
        for (int bits : BITS) {
            due(x.sheet(0, bits, 40), 40);
            due(x.write(0, 39, 1), 0);
            due(x.write(0, 40, 1), BEYOND);
            due(x.sheet(0, bits, 0), 0);
            due(x.write(0, 0, 1), BEYOND);
            due(x.read(0), 0);
            due(x.turns(0), 0);
        }
    }

    private static void sheetOrder() {
        sentence("sheet: BEYOND: no such sheet, other bits. SIZE: n is below 0. BEYOND: n is above 40");
        FuelTurns x = new FuelTurns();
        sheetOf(x, 0, 16, 7, 8);
        for (int bits : new int[] {0, 8, 16, 64}) {
            due(x.sheet(0, bits, -1), SIZE);
            due(x.sheet(0, bits, LEAST), SIZE);
            due(x.sheet(0, bits, 41), BEYOND);
            due(x.sheet(0, bits, MOST), BEYOND);
            due(x.sheet(4, bits, -1), BEYOND);
        }
        due(x.sheet(0, 9, -1), BEYOND);
        due(x.sheet(-1, 9, -1), BEYOND);
        due(x.status(6), 8);
        due(x.status(0), 14);
        due(x.write(0, 0, 7), 7);
        due(x.write(0, 1, 8), 8);
        due(x.write(0, 2, 8), BEYOND);
    }

    private static void sheetIsNew() {
        sentence("sheet: a sheet has n numbers, all 0");
        FuelTurns x = new FuelTurns();
        for (int bits : BITS) {
            x.sheet(0, bits, 40);
            for (int i = 0; i < 40; i++) {
                due(x.write(0, i, -1 - i), 0);
            }
            x.sheet(0, bits, 3);
            for (int i = 0; i < 3; i++) {
                due(x.write(0, i, 5), 0);
            }
            due(x.write(0, 3, 5), BEYOND);
        }
    }

    private static void sheetMissing() {
        sentence("sheet: bits 0: it is MISSING: n (0 if it is MISSING)");
        FuelTurns x = new FuelTurns();
        for (int n : new int[] {0, 1, 40}) {
            sheetOf(x, 2, 8, 1, 2, 3);
            due(x.sheet(2, 0, n), 0);
            due(x.write(2, 0, 1), MISSING);
            due(x.read(2), MISSING);
            due(x.turns(2), MISSING);
        }
        due(x.sheet(2, 0, 40), 0);
        due(x.sheet(2, 8, 3), 3);
        due(x.write(2, 2, 9), 0);
    }

    private static void writeFindings() {
        sentence("write: BEYOND: no such sheet. MISSING. BEYOND: no such number (in this order)");
        FuelTurns x = new FuelTurns();
        due(x.write(4, -1, 0), BEYOND);
        due(x.write(0, -1, 0), MISSING);
        due(x.write(0, 40, 0), MISSING);
        x.sheet(0, 64, 3);
        for (int wrong : new int[] {-1, 3, 40, LEAST, MOST}) {
            due(x.write(0, wrong, 7), BEYOND);
        }
        due(x.status(0), 6);
        due(x.status(5), 2);
        for (int i = 0; i < 3; i++) {
            due(x.write(0, i, i), 0);
        }
    }

    private static void writes(int bits, long v, long is) {
        FuelTurns x = new FuelTurns();
        x.sheet(0, bits, 2);
        x.write(0, 1, v);
        due(x.write(0, 1, 0), is);
        due(x.write(0, 1, 0), 0);
        due(x.write(0, 0, 0), 0);
    }

    private static void writeBits() {
        sentence("write: number i of a sheet becomes v (its lowest bits): what it was");
        writes(8, 127, 127);
        writes(8, 128, -128);
        writes(8, 255, -1);
        writes(8, 256, 0);
        writes(8, -128, -128);
        writes(8, -129, 127);
        writes(8, Long.MAX_VALUE, -1);
        writes(8, Long.MIN_VALUE, 0);
        writes(8, 0x1234567890abcd7fL, 127);
        writes(16, 32767, 32767);
        writes(16, 32768, -32768);
        writes(16, 65535, -1);
        writes(16, 65536, 0);
        writes(16, -32768, -32768);
        writes(16, -32769, 32767);
        writes(16, Long.MAX_VALUE, -1);
        writes(16, Long.MIN_VALUE, 0);
        writes(16, 0x1234567890ab0180L, 0x180);
        writes(64, Long.MAX_VALUE, Long.MAX_VALUE);
        writes(64, Long.MIN_VALUE, Long.MIN_VALUE);
        writes(64, 1L << 32, 1L << 32);
        writes(64, -1, -1);
    }

    private static void writeNoFinding() {
        sentence("a number that looks like a finding is none");
        FuelTurns x = new FuelTurns();
        x.sheet(0, 64, 1);
        for (int f = BEYOND; f >= SIZE; f--) {
            x.write(0, 0, f);
            due(x.write(0, 0, 0), f);
        }
        due(x.status(-1), 0);
    }

    private static void copyFindings() {
        sentence("copy: BEYOND: no such sheet (either). MISSING: one is. KIND. BEYOND (in this order)");
        FuelTurns x = new FuelTurns();
        sheetOf(x, 0, 8, 1, 2);
        sheetOf(x, 1, 16, 1, 2);
        sheetOf(x, 2, 64, 1, 2);
        due(x.copy(3, -1, 4, -1, -1), BEYOND);
        due(x.copy(4, -1, 3, -1, -1), BEYOND);
        due(x.copy(3, -1, 0, -1, -1), MISSING);
        due(x.copy(0, -1, 3, -1, -1), MISSING);
        due(x.copy(3, -1, 3, -1, -1), MISSING);
        for (int s = 0; s < 3; s++) {
            for (int t = 0; t < 3; t++) {
                due(x.copy(s, -1, t, 0, 1), s == t ? BEYOND : KIND);
                due(x.copy(s, 0, t, 0, 3), s == t ? BEYOND : KIND);
                due(x.copy(s, 0, t, 0, 0), s == t ? 0 : KIND);
            }
        }
        due(x.status(5), 3);
        due(x.status(2), 18);
    }

    private static void copyLimits() {
        sentence("copy: BEYOND: one has not so many, or from, to or n is below 0");
        FuelTurns x = new FuelTurns();
        sheetOf(x, 0, 8, 1, 2, 3, 4, 5);
        sheetOf(x, 1, 8, 6, 7, 8);
        int[][] wrong = {{-1, 0, 1}, {0, -1, 1}, {0, 0, -1}, {0, 0, 4}, {3, 0, 3}, {5, 0, 1}, {0, 3, 1}, {0, 1, 3},
            {MOST, 0, 1}, {0, MOST, 1}, {0, 0, MOST}, {1, 0, MOST}, {0, 1, MOST}, {MOST, MOST, MOST}, {LEAST, 0, 1},
            {0, LEAST, 1}, {0, 0, LEAST}, {LEAST, LEAST, LEAST}, {-1, 0, 0}, {0, -1, 0}, {-3, 0, 3}, {MOST, 0, 0},
            {0, MOST, 0}, {1, 1, LEAST}, {MOST, 0, LEAST}};
        for (int[] w : wrong) {
            due(x.copy(0, w[0], 1, w[1], w[2]), BEYOND);
        }
        due(x.status(-1), wrong.length);
        due(x.copy(0, 2, 1, 0, 3), 3);
        for (int i = 0; i < 3; i++) {
            due(x.write(1, i, 0), 3 + i);
        }
        due(x.copy(0, 4, 1, 2, 1), 1);
        due(x.write(1, 2, 0), 5);
        due(x.write(1, 1, 0), 0);
        sentence("copy: all 40");
        x.sheet(2, 16, 40);
        x.sheet(3, 16, 40);
        x.write(2, 39, -7);
        x.write(2, 0, 8);
        due(x.copy(2, 0, 3, 0, 40), 40);
        due(x.write(3, 39, 0), -7);
        due(x.write(3, 0, 0), 8);
        due(x.copy(2, 0, 3, 0, 41), BEYOND);
        due(x.copy(2, 1, 3, 0, 40), BEYOND);
    }

    private static void copyNone() {
        sentence("copy: n 0");
        FuelTurns x = new FuelTurns();
        sheetOf(x, 0, 8, 1, 2);
        x.sheet(1, 8, 0);
        due(x.copy(0, 0, 1, 0, 0), 0);
        due(x.copy(1, 0, 0, 2, 0), 0);
        due(x.copy(1, 0, 1, 0, 0), 0);
        due(x.copy(1, 0, 1, 0, 1), BEYOND);
        due(x.copy(0, 3, 0, 0, 0), BEYOND);
        due(x.write(0, 0, 0), 1);
        due(x.write(0, 1, 0), 2);
    }

    private static void copyAsTheyWere() {
        sentence("copy: (as they all were)");
        for (int from = 0; from < 5; from++) {
            for (int to = 0; to < 5; to++) {
                int n = 5 - Math.max(from, to);
                FuelTurns x = new FuelTurns();
                sheetOf(x, 0, 16, 10, 11, 12, 13, 14);
                due(x.copy(0, from, 0, to, n), n);
                for (int i = 0; i < 5; i++) {
                    boolean copied = i >= to && i < to + n;
                    due(x.write(0, i, 0), 10 + (copied ? i - to + from : i));
                }
            }
        }
    }

    private static void turnsFindings() {
        sentence("turns: BEYOND: no such sheet. MISSING");
        FuelTurns x = new FuelTurns();
        due(x.turns(4), BEYOND);
        due(x.turns(-1), BEYOND);
        due(x.turns(3), MISSING);
        x.sheet(3, 8, 0);
        due(x.turns(3), 0);
        due(x.thing(0), 0);
    }

    private static void turnsLeftOut() {
        sentence("turns: those that aren't -24 to 24 .. are left out, with their DAY");
        for (long wrong : new long[] {25, -25, 1L << 32, (1L << 32) + 1, Long.MAX_VALUE, Long.MIN_VALUE}) {
            FuelTurns x = at(wrong < 0 ? 12 : -12, 60);
            sheetOf(x, 0, 64, wrong);
            due(x.turns(0), 0);
            due(x.thing(0), 0);
            due(x.thing(1), wrong < 0 ? 12 : -12);
            due(x.thing(2), 60);
            due(x.status(-1), 0);
        }
        for (int side = -1; side <= 1; side += 2) {
            FuelTurns x = at(-12 * side, 60);
            sheetOf(x, 0, 8, 24 * side, 0);
            due(x.turns(0), 2);
            due(x.thing(1), 12 * side);
        }
        sentence("turns: .. or CAN'T be");
        FuelTurns y = at(11, 3);
        sheetOf(y, 1, 16, 2, 1, 1, -2, -3, 1, 0, -1);
        due(y.turns(1), 3);
        due(y.thing(0), 3);
        due(y.thing(1), 10);
        due(y.thing(2), 0);
        due(y.thing(3), 0);
        due(y.status(-1), 0);
        FuelTurns z = at(0, 5);
        z.plan(KEEP, 3);
        sheetOf(z, 0, 8, 3, -2, 1, 0);
        due(z.turns(0), 2);
        due(z.thing(1), -2);
        due(z.thing(2), 3);
        sentence("turns: one ahead of each DAY's end");
        FuelTurns u = new FuelTurns();
        u.warn(0, on(1, 1, 0), 7);
        u.warn(0, on(2, 1, 0), 70);
        u.warn(0, on(3, 1, 0), 700);
        sheetOf(u, 0, 8, 1, -1, 99, 1);
        due(u.turns(0), 3);
        due(u.thing(3), 280);
        due(u.thing(4), 707);
        sentence("turns: all 40 of them");
        FuelTurns v = new FuelTurns();
        v.sheet(0, 8, 40);
        due(v.turns(0), 40);
        due(v.turns(0), 40);
        due(v.thing(0), 80);
        due(v.thing(3), 8000);
    }

    private static void turnsTillTheLastDay() {
        sentence("turns: at TODAY 999 no more come, which is no finding");
        FuelTurns x = onDay(997);
        sheetOf(x, 0, 8, 1, 25, 1, 1);
        due(x.turns(0), 2);
        due(x.thing(0), 999);
        due(x.thing(1), 2);
        due(x.thing(2), 7);
        due(x.turns(0), 0);
        due(x.thing(0), 999);
        due(x.thing(1), 2);
        due(x.status(-1), 0);
    }

    private static void readFindings() {
        sentence("read: BEYOND: no such sheet. MISSING");
        FuelTurns x = new FuelTurns();
        due(x.read(4), BEYOND);
        due(x.read(-1), BEYOND);
        due(x.read(0), MISSING);
        sentence("read: 0 if all (as many as there are) are right");
        x.sheet(0, 8, 0);
        due(x.read(0), 0);
        x.sheet(0, 8, 40);
        due(x.read(0), 0);
    }

    private static void readPlaces() {
        sentence("read: else 1 and the place of the first that isn't");
        FuelTurns x = new FuelTurns();
        x.sheet(0, 64, 40);
        for (int i = 39; i >= 0; i--) {
            x.write(0, i, i % 2 == 0 ? 1 : -1);
            due(x.read(0), 1 + i);
        }
        due(x.status(-1), 0);
        sentence("read: a number is right in all its bits");
        FuelTurns y = warned(0, on(1, 0, 0), 5);
        sheetOf(y, 0, 64, 5 + (1L << 32));
        due(y.read(0), 1);
        y.write(0, 0, 5);
        due(y.read(0), 0);
        FuelTurns z = warned(0, on(1, 0, 0), 128);
        sheetOf(z, 0, 8, 128);
        due(z.read(0), 1);
        sheetOf(z, 0, 16, 128);
        due(z.read(0), 0);
    }

    private static void readDays() {
        sentence("read: DANGER at the HEIGHT on the next DAYS, one by one");
        FuelTurns x = at(1, 9);
        x.warn(0, on(1, 1, 0), 10);
        x.warn(0, on(2, 0, 1), 40);
        x.warn(0, on(40, 1, 0), 30);
        x.sheet(0, 8, 40);
        x.write(0, 0, 10);
        x.write(0, 1, 20);
        due(x.read(0), 40);
        x.write(0, 39, 30);
        due(x.read(0), 0);
        x.move(-1);
        due(x.read(0), 1);
        x.move(1);
        x.days(1);
        due(x.read(0), 1);
        sheetOf(x, 0, 8, 20);
        due(x.read(0), 0);
        x.days(1);
        due(x.read(0), 1);
        sentence("read: DAYS behind 999, for which there is no WARNING");
        FuelTurns y = onDay(998);
        y.warn(0, on(999, 0, 0), 4);
        y.sheet(0, 8, 40);
        y.write(0, 0, 4);
        due(y.read(0), 0);
        y.write(0, 39, 4);
        due(y.read(0), 40);
        y.days(1);
        due(y.read(0), 1);
    }
}
