/** Section 4's PAIR and ROW and promises 29 to 31, sentence by sentence at their edges. */
public final class PairRowEdgesTest extends Given {
    private PairRowEdgesTest() {
    }

    public static void main(String[] args) {
        restsFindings();
        restsBits();
        restsNeedMore();
        bothFindings();
        bothTogether();
        bothNone();
        swarmLimits();
        swarmFindings();
        swarmNoIth();
        swarmCantBe();
        swarmGap();
        swarmFewest();
        swarmLeastSteps();
        swarmFirstByNumbers();
        swarmOfTwelve();
        swarmBits();
        Check.end();
    }

    private static FuelTurns sheeted(int bits, long... numbers) {
        FuelTurns x = new FuelTurns();
        sheetOf(x, 0, bits, numbers);
        return x;
    }

    private static void restsFindings() {
        sentence("rests: BEYOND. MISSING. SIZE: not 8 numbers. KIND (in this order)");
        FuelTurns x = new FuelTurns();
        for (int wrong : new int[] {-1, 4, LEAST, MOST}) {
            due(x.rests(wrong), BEYOND);
        }
        for (int s = 0; s < 4; s++) {
            due(x.rests(s), MISSING);
        }
        for (int n = 0; n <= 40; n++) {
            x.sheet(3, 64, n);
            x.write(3, 0, 1000001);
            due(x.rests(3), n == 8 ? KIND : SIZE);
            due(x.both(3, 0), n == 8 ? KIND : SIZE);
        }
        sentence("rests: KIND: one is below -1000000 or above 1000000");
        for (int i = 0; i < 8; i++) {
            FuelTurns y = new FuelTurns();
            y.sheet(0, 64, 8);
            for (long wrong : new long[] {1000001, -1000001, Long.MIN_VALUE, Long.MAX_VALUE, 1L << 32}) {
                y.write(0, i, wrong);
                due(y.rests(0), KIND);
                due(y.both(0, 1), KIND);
            }
            for (long right : new long[] {1000000, -1000000}) {
                y.write(0, i, right);
                due(y.rests(0) > 0 ? 1 : 0, 1);
            }
        }
    }

    private static void restsBits() {
        sentence("REST (bits: 1 both stay, 2 the first goes alone, 4 the second alone, 8 both)");
        // Only one of the four gives each 1 more than its others.
        due(sheeted(8, 1, 0, 1, 0, 1, 1, 0, 0).rests(0), 1);
        due(sheeted(8, 0, 1, 0, 1, 1, 1, 0, 0).rests(0), 2);
        due(sheeted(8, 1, 0, 1, 0, 0, 0, 1, 1).rests(0), 4);
        due(sheeted(8, 0, 1, 0, 1, 0, 0, 1, 1).rests(0), 8);
        sentence("PAIR: what the first one has if both stay, the first goes alone, the second alone, both");
        due(sheeted(8, 2, 1, 0, 0, 0, 0, 0, 0).rests(0), 1 + 4 + 8);
        due(sheeted(8, 0, 0, 1, 2, 0, 0, 0, 0).rests(0), 1 + 2 + 8);
        sentence("PAIR: then likewise the second one");
        due(sheeted(8, 0, 0, 0, 0, 2, 0, 1, 0).rests(0), 1 + 2 + 8);
        due(sheeted(8, 0, 0, 0, 0, 0, 1, 0, 2).rests(0), 1 + 4 + 8);
        due(sheeted(8, 0, 0, 0, 0, 0, 2, 0, 1).rests(0), 1 + 2 + 4);
    }

    private static void restsNeedMore() {
        sentence("a pair from which neither alone would have more");
        due(sheeted(8, 0, 0, 0, 0, 0, 0, 0, 0).rests(0), 15);
        due(sheeted(8, -5, -5, -5, -5, 7, 7, 7, 7).rests(0), 15);
        due(sheeted(8, 0, 0, 0, 0, 0, 0, 0, 1).rests(0), 1 + 4 + 8);
        due(sheeted(8, 1, 0, 0, 1, 0, 1, 1, 0).rests(0), 0);
        due(sheeted(64, 1000000, -1000000, -1000000, 1000000, 1000000, -1000000, -1000000, 1000000).rests(0), 9);
    }

    private static void bothFindings() {
        sentence("both: BEYOND. MISSING. SIZE, KIND likewise. NONE (in this order)");
        FuelTurns x = new FuelTurns();
        for (int wrong : new int[] {-1, 4, LEAST, MOST}) {
            due(x.both(wrong, 0), BEYOND);
            due(x.both(wrong, 2), BEYOND);
        }
        for (int wrong : new int[] {-1, 2, LEAST, MOST}) {
            due(x.both(0, wrong), BEYOND);
        }
        for (int s = 0; s < 4; s++) {
            due(x.both(s, 0), MISSING);
            due(x.both(s, 1), MISSING);
        }
        x.sheet(0, 64, 7);
        x.write(0, 0, 1000001);
        due(x.both(0, 2), BEYOND);
        due(x.both(0, 1), SIZE);
        sheetOf(x, 0, 64, 1, 0, 0, 1, 0, 1, 1000001, 0);
        due(x.both(0, 2), BEYOND);
        due(x.both(0, 1), KIND);
    }

    private static void bothTogether() {
        sentence("both: what both have together at most, by any of the four (0)");
        for (int four = 0; four < 4; four++) {
            FuelTurns x = new FuelTurns();
            x.sheet(0, 64, 8);
            x.write(0, four, 7);
            x.write(0, 4 + four, -2);
            due(x.both(0, 0), 5);
        }
        due(sheeted(64, -1000000, -1000000, -1000000, -1000000, -1000000, -1000000, -1000000, -1000000).both(0, 0),
            -2000000);
        due(sheeted(64, 1000000, 0, 0, 0, 1000000, 0, 0, 0).both(0, 0), 2000000);
        sentence("both: less that of the best REST (1)");
        due(sheeted(8, 3, 5, 1, 2, 3, 1, 5, 2).both(0, 1), 2);
        due(sheeted(8, 3, 0, 0, 1, 3, 0, 0, 1).both(0, 1), 0);
        // RESTS 1 (5 together) and 8 (7 together); at most 9, the first alone.
        due(sheeted(16, 3, 2, -20, 0, 2, 7, 1, 7).rests(0), 1 + 8);
        due(sheeted(16, 3, 2, -20, 0, 2, 7, 1, 7).both(0, 0), 9);
        due(sheeted(16, 3, 2, -20, 0, 2, 7, 1, 7).both(0, 1), 2);
        due(sheeted(64, -1000000, 1000000, -1000000, -1000000, 0, 1000000, 0, 1000000).both(0, 1), 0);
        due(sheeted(64, 1000000, 1000000, -1000000, -1000000, 1000000, -1000000, 1000000, -1000000).both(0, 1), 0);
        // Both go, though each would have 999999 if both stayed.
        due(sheeted(64, 999999, 1000000, -1000000, -999999, 999999, -1000000, 1000000, -999999).both(0, 1), 3999996);
    }

    private static void bothNone() {
        sentence("both: NONE (1): there is no REST");
        FuelTurns x = sheeted(8, 1, 0, 0, 1, 0, 1, 1, 0);
        due(x.both(0, 0), 1);
        due(x.both(0, 1), NONE);
        due(x.status(-1), 1);
        due(x.status(3), 1);
    }

    private static void swarmLimits() {
        sentence("swarm: BEYOND: sheet, gap, most, what (2 to 13)");
        FuelTurns x = new FuelTurns();
        for (int wrong : new int[] {-1, 4, LEAST, MOST}) {
            due(x.swarm(wrong, 0, 0, 0), BEYOND);
        }
        for (int wrong : new int[] {-1, 51, LEAST, MOST}) {
            due(x.swarm(0, wrong, 0, 0), BEYOND);
        }
        for (int wrong : new int[] {-1, 21, LEAST, MOST}) {
            due(x.swarm(0, 0, wrong, 0), BEYOND);
        }
        for (int wrong : new int[] {-1, 14, LEAST, MOST}) {
            due(x.swarm(0, 0, 0, wrong), BEYOND);
        }
        for (int s = 0; s < 4; s++) {
            due(x.swarm(s, 50, 20, 13), MISSING);
            due(x.swarm(s, 0, 0, 0), MISSING);
        }
    }

    private static void swarmFindings() {
        sentence("swarm: MISSING. SIZE: not 2 to 12 numbers. KIND. NONE (in this order)");
        FuelTurns x = new FuelTurns();
        for (int n = 0; n <= 40; n++) {
            x.sheet(1, 16, n);
            x.write(1, 0, 101);
            due(x.swarm(1, 50, 0, 13), n < 2 || n > 12 ? SIZE : KIND);
        }
        sentence("swarm: KIND: one is below -100 or above 100");
        for (int i = 0; i < 12; i++) {
            FuelTurns y = new FuelTurns();
            y.sheet(0, 64, 12);
            for (long wrong : new long[] {101, -101, Long.MIN_VALUE, Long.MAX_VALUE, 1L << 32}) {
                y.write(0, i, wrong);
                due(y.swarm(0, 0, 0, 0), KIND);
            }
            for (long right : new long[] {100, -100}) {
                y.write(0, i, right);
                due(y.swarm(0, 0, 0, 0), 0);
            }
        }
    }

    private static void swarmNoIth() {
        sentence("swarm: NONE: there is no i-th");
        for (int n = 2; n <= 12; n++) {
            FuelTurns x = new FuelTurns();
            x.sheet(0, 8, n);
            for (int what = 0; what <= 13; what++) {
                due(x.swarm(0, 0, 20, what), what < 2 + n ? 0 : NONE);
            }
        }
    }

    private static void swarmCantBe() {
        sentence("swarm: NONE: it can't be");
        FuelTurns x = sheeted(8, 0, 0);
        for (int what = 0; what <= 13; what++) {
            due(x.swarm(0, 41, 20, what), NONE);
            due(x.swarm(0, 1, 0, what), NONE);
        }
        due(x.swarm(0, 40, 20, 0), 2);
        due(x.swarm(0, 40, 20, 1), 40);
        due(x.swarm(0, 40, 19, 1), NONE);
        due(x.swarm(0, 39, 20, 1), 39);
        FuelTurns y = sheeted(8, 10, 0);
        due(y.swarm(0, 50, 20, 2), 20);
        due(y.swarm(0, 50, 20, 3), -20);
        due(y.swarm(0, 50, 19, 0), NONE);
        sentence("swarm: it can't be among the last ones, nor among the first ones alone");
        due(sheeted(8, -100, 0, 100, 100).swarm(0, 5, 2, 0), NONE);
        due(sheeted(8, 100, 100, 0, -100).swarm(0, 5, 2, 0), NONE);
    }

    private static void swarmGap() {
        sentence("those next to each other must be a GAP (0 to 50) apart, or more");
        due(sheeted(8, 0, 0).swarm(0, 0, 20, 0), 0);
        due(sheeted(8, 0, 50).swarm(0, 50, 20, 0), 0);
        due(sheeted(8, 0, 49).swarm(0, 50, 20, 0), 1);
        due(sheeted(8, 0, 49).swarm(0, 50, 20, 3), 1);
        due(sheeted(8, 0, 51).swarm(0, 50, 20, 0), 0);
        due(sheeted(8, 50, 0).swarm(0, 50, 0, 0), 0);
        due(sheeted(8, 49, 0).swarm(0, 50, 0, 0), NONE);
        sentence("(those that aren't next to each other may be where the other one is)");
        due(sheeted(8, 0, 50, 0, 50).swarm(0, 50, 0, 0), 0);
        sentence("(those that are far apart have room on both sides)");
        for (int most = 0; most <= 20; most += 5) {
            row(sheeted(8, 100, 0), 50, most, 0, 0);
            row(sheeted(8, -100, 100), 50, most, 0, 0);
            row(sheeted(8, 100, -100, 100), 50, most, 0, 0, 0);
        }
        row(sheeted(8, 100, 5, 0, -10), 10, 5, 0, 5, 0, 0);
        row(sheeted(8, -100, -5, 0, 10), 10, 5, 0, -5, 0, 0);
        row(sheeted(8, 100, 20, 0, -40), 40, 20, 0, 20, 0, 0);
        row(sheeted(8, -100, -20, 0, 40), 40, 20, 0, -20, 0, 0);
        sentence("(one may move past the other)");
        row(sheeted(8, 0, 1, 3), 3, 20, 0, -4, 0);
        row(sheeted(8, 0, 2, 3), 3, 20, 0, 4, 0);
    }

    private static void row(FuelTurns x, int gap, int most, int... moves) {
        int moving = 0;
        int steps = 0;
        for (int i = 0; i < moves.length; i++) {
            moving += moves[i] == 0 ? 0 : 1;
            steps += Math.abs(moves[i]);
            due(x.swarm(0, gap, most, 2 + i), moves[i]);
        }
        due(x.swarm(0, gap, most, 0), moving);
        due(x.swarm(0, gap, most, 1), steps);
    }

    private static void swarmFewest() {
        sentence("the fewest that move");
        row(sheeted(8, 0, 0, 0), 20, 20, 0, -20, 0);
        row(sheeted(8, 0, 0, 0), 20, 19, -1, 19, -1);
        row(sheeted(8, 0, 0, 0, 0, 0), 7, 20, 0, -7, 0, -7, 0);
        // One by 19 is ahead of two by 1.
        row(sheeted(8, 0, 9, 18), 10, 20, 0, -19, 0);
        row(sheeted(8, 0, 9, 18), 10, 18, -1, 0, 1);
    }

    private static void swarmLeastSteps() {
        sentence("of several the least steps together");
        row(sheeted(8, 0, 3, 0), 5, 20, 0, 2, 0);
        row(sheeted(8, 0, -3, 0), 5, 20, 0, -2, 0);
        row(sheeted(8, 0, 3), 5, 20, 0, 2);
        row(sheeted(8, 3, 0), 5, 20, 0, -2);
    }

    private static void swarmFirstByNumbers() {
        sentence("then the first by numbers: that which doesn't move");
        row(sheeted(8, 0, 0), 3, 20, 0, -3);
        row(sheeted(8, 0, 0, 50, 50), 3, 20, 0, -3, 0, -3);
        sentence("then fewer steps");
        row(sheeted(8, 0, 0), 5, 3, -2, 3);
        row(sheeted(8, 0, 0), 6, 3, -3, 3);
        row(sheeted(8, 0, 0), 4, 3, -1, 3);
        row(sheeted(8, 1, 0), 6, 3, 2, -3);
        sentence("downwards ahead");
        row(sheeted(8, 5, 5), 1, 1, 0, -1);
        row(sheeted(8, 5, 5), 2, 1, -1, 1);
        row(sheeted(8, -100, -100), 20, 20, 0, -20);
        row(sheeted(8, 100, 100), 40, 20, -20, 20);
    }

    private static void swarmOfTwelve() {
        sentence("ROW: (2 to 12 numbers, -100 to 100 each)");
        row(sheeted(8, 0, 0, 0, 0, 0, 0, 0, 0, 0, 0, 0, 0), 20, 20, 0, -20, 0, -20, 0, -20, 0, -20, 0, -20, 0, -20);
        row(sheeted(8, 0, 0, 0, 0, 0, 0, 0, 0, 0, 0, 0, 0), 40, 20,
            -20, 20, -20, 20, -20, 20, -20, 20, -20, 20, -20, 20);
        row(sheeted(8, 100, -100, 100, -100), 50, 0, 0, 0, 0, 0);
    }

    private static void swarmBits() {
        sentence("ROW on a sheet of 8, 16 or 64 bits");
        for (int bits : new int[] {8, 16, 64}) {
            row(sheeted(bits, -100, -99), 3, 20, 0, 2);
        }
        sentence("(asking moves nothing on the sheet)");
        FuelTurns x = sheeted(64, 0, 0);
        x.swarm(0, 5, 20, 0);
        due(x.write(0, 0, 9), 0);
        due(x.write(0, 1, 9), 0);
    }
}
