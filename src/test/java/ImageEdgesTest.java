/** Promises 37 to 41, sentence by sentence at their edges. */
public final class ImageEdgesTest extends Given {
    private ImageEdgesTest() {
    }

    public static void main(String[] args) {
        imageKeepsAll();
        imageWithoutTheTape();
        imageIsApart();
        imageOfNothing();
        undoOfNothing();
        undoIsLatest();
        undoOfMoreAndFewer();
        tears();
        countLimits();
        countWhats();
        countNextDay();
        statusLimits();
        statusByKind();
        statusStays();
        findingsInLongs();
        allCalls();
        Check.end();
    }

    /** A thing of which nothing is as at first. */
    private static FuelTurns full() {
        FuelTurns x = new FuelTurns();
        int[] plan = {2, 200, 7, 300, 3, 55};
        for (int what = 0; what < 6; what++) {
            x.plan(what, plan[what]);
        }
        x.move(-4);
        x.warn(4, on(2, -4, 1), 600000);
        x.warn(5, on(8, 3, 4), 400000);
        x.look(0, 75, true);
        x.look(1, 80, false);
        x.look(1, 80, false);
        ruleOf(x, "t+h");
        x.days(2);
        return x;
    }

    private static void isFull(FuelTurns x) {
        int[] plan = {2, 200, 7, 300, 3, 47};
        for (int what = 0; what < 6; what++) {
            due(planned(x, what), plan[what]);
        }
        due(x.thing(0), 2);
        due(x.thing(1), -4);
        due(x.thing(2), 47);
        due(x.thing(3), 344);
        // 0.6 by 75 is 0.45 by 0.55: 818181; half of it.
        due(x.thing(4), 409090);
        due(x.count(0), 2);
        // 0.4 by 80, told 0: 0.08 by 0.56: 142857; then 0.0285714 by 0.7142858: 39999.
        int[][] warnings = {{4, 2, -4, 1, 818181, 1, 0}, {5, 8, 3, 4, 39999, 2, 1}};
        for (int w = 0; w < 2; w++) {
            for (int what = 0; what < 7; what++) {
                due(x.of(w, what), warnings[w][what]);
            }
        }
        due(x.count(2), 3);
        due(x.says(0), -2);
        due(x.count(3), 1);
    }

    /** Nothing is as it was. */
    private static void changeAll(FuelTurns x) {
        for (int what = 0; what < 6; what++) {
            x.plan(what, 1 + what);
        }
        x.plan(FUEL, 60);
        x.plan(USE, 50);
        x.move(5);
        x.look(1, 70, true);
        x.warn(0, on(3, 1, 0), 5);
        ruleOf(x, "d-5");
        x.days(3);
    }

    private static void imageKeepsAll() {
        sentence("image: all that sections 1 to 3 tell is kept: 1");
        FuelTurns x = full();
        isFull(x);
        due(x.image(), 1);
        changeAll(x);
        due(x.thing(0), 5);
        due(x.count(0), 3);
        due(x.thing(3), 344 + 3 * 47);
        due(x.undo(), 2);
        isFull(x);
        sentence("undo: it becomes what was kept latest (which stays)");
        changeAll(x);
        due(x.undo(), 2);
        isFull(x);
        due(x.undo(), 2);
        isFull(x);
    }

    private static void imageWithoutTheTape() {
        sentence("image: (THE TAPE not)");
        FuelTurns x = new FuelTurns();
        feedText(x, "12");
        x.image();
        feedText(x, "34");
        due(x.undo(), 0);
        due(x.count(4), 4);
        due(x.rule(), 0);
        due(x.says(0), 1234);
        x.undo();
        due(x.count(3), 0);
        due(x.count(4), 0);
        x.image();
        feedText(x, "5");
        due(x.wipe(), 1);
        x.undo();
        due(x.count(4), 0);
        sentence("image: (sheets are section 6)");
        FuelTurns y = new FuelTurns();
        sheetOf(y, 0, 8, 1, 2);
        y.image();
        y.write(0, 0, 9);
        y.sheet(1, 16, 3);
        y.undo();
        due(y.write(0, 0, 9), 9);
        due(y.write(0, 1, 2), 2);
        due(y.write(1, 2, 0), 0);
        y.tear();
        y.image();
        due(y.write(0, 0, 9), 9);
        due(y.write(0, 1, 2), 2);
    }

    private static void imageIsApart() {
        sentence("image: what comes behind it changes nothing of what is kept");
        FuelTurns x = new FuelTurns();
        x.warn(0, on(5, 0, 0), 500000);
        x.image();
        x.look(0, 90, true);
        x.undo();
        x.look(0, 90, true);
        x.undo();
        due(x.of(0, 4), 500000);
        due(x.of(0, 5), 0);
        x.warn(1, on(6, 1, 1), 9);
        x.undo();
        due(x.count(0), 1);
        due(x.warn(2, on(7, 2, 2), 8), 1);
        due(x.of(1, 0), 2);
        due(x.of(1, 5), 0);
        x.look(1, 60, true);
        x.undo();
        due(x.warn(3, on(7, 2, 2), 8), 1);
        due(x.of(1, 5), 0);
        due(x.count(2), 0);
        x.undo();
        sentence("image: what is only thought of changes nothing of it, either");
        ruleOf(x, "1");
        x.life(3, 100);
        x.lives(3, 50, 100);
        x.know(0, 90, 8);
        due(x.undo(), 0);
        due(x.count(3), 0);
        due(x.of(0, 4), 500000);
        due(x.thing(1), 0);
    }

    private static void imageOfNothing() {
        sentence("image: of a new object");
        FuelTurns x = new FuelTurns();
        due(x.image(), 1);
        changeAll(x);
        due(x.undo(), 0);
        due(x.count(0), 0);
        due(x.count(3), 0);
        due(x.open(), 0);
        int[] plan = {1, 100, 10, 1000000, 0, 9};
        for (int what = 0; what < 6; what++) {
            due(planned(x, what), plan[what]);
        }
        for (int what = 0; what < 5; what++) {
            due(x.thing(what), what == 2 ? 9 : 0);
        }
    }

    private static void undoOfNothing() {
        sentence("undo: NONE: nothing is kept");
        FuelTurns x = new FuelTurns();
        x.days(3);
        due(x.undo(), NONE);
        due(x.thing(0), 3);
        due(x.status(3), 1);
        x.image();
        due(x.undo(), 3);
        x.tear();
        due(x.undo(), NONE);
        due(x.status(3), 2);
    }

    private static void undoIsLatest() {
        sentence("undo: what was kept latest");
        FuelTurns x = new FuelTurns();
        for (int day = 1; day <= 3; day++) {
            x.days(1);
            due(x.image(), 1);
        }
        x.days(90);
        due(x.undo(), 3);
        due(x.undo(), 3);
        waits(x, 999);
        x.image();
        due(x.undo(), 999);
    }

    private static void undoOfMoreAndFewer() {
        sentence("undo: a full set of WARNINGS, an empty one, a long RULE, a short one");
        FuelTurns x = new FuelTurns();
        x.image();
        for (int i = 0; i < 12; i++) {
            x.warn(i % 6, on(1 + i, i, 1), 1000 * i);
        }
        ruleOf(x, "1+1+1+1+1+1+1+1+1+1+1+1+1+1+1+1+1+1+1+1+1+1+1+1+1+1+1+1+1+11");
        x.undo();
        due(x.count(0), 0);
        due(x.says(0), 0);
        for (int i = 0; i < 12; i++) {
            due(x.warn(5 - i % 6, on(20 + i, -i, 2), 2000 * i), i);
        }
        ruleOf(x, "1+1+1+1+1+1+1+1+1+1+1+1+1+1+1+1+1+1+1+1+1+1+1+1+1+1+1+1+1+12");
        x.image();
        FuelTurns y = x;
        y.drift();
        ruleOf(y, "2");
        y.undo();
        due(y.says(0), 41);
        for (int i = 0; i < 12; i++) {
            due(y.of(i, 0), 5 - i % 6);
            due(y.of(i, 1), 20 + i);
            due(y.of(i, 2), -i);
            due(y.of(i, 3), 2);
            due(y.of(i, 4), 2000 * i);
        }
        due(y.warn(0, on(30, 0, 0), 1), FULL);
    }

    private static void tears() {
        sentence("tear: nothing is kept: 1 if something was, else 0");
        FuelTurns x = new FuelTurns();
        due(x.tear(), 0);
        x.image();
        x.days(2);
        x.image();
        due(x.tear(), 1);
        due(x.tear(), 0);
        due(x.undo(), NONE);
        due(x.thing(0), 2);
        due(x.image(), 1);
        due(x.undo(), 2);
        due(x.tear(), 1);
        sentence("tear: (it stays what it is now)");
        FuelTurns y = full();
        FuelTurns z = full();
        z.image();
        changeAll(z);
        z.image();
        z.days(1);
        due(z.tear(), 1);
        due(z.thing(0), 6);
        due(z.thing(1), 1);
        y.image();
        due(y.tear(), 1);
        isFull(y);
    }

    private static void countLimits() {
        sentence("count: BEYOND: another what");
        FuelTurns x = new FuelTurns();
        for (int wrong : new int[] {-1, 6, LEAST, MOST}) {
            due(x.count(wrong), BEYOND);
        }
        due(x.status(0), 4);
    }

    private static void countWhats() {
        sentence("count: 0 WARNINGS, 1 OPEN ones, 2 LOOKS at all, 3 1 if there is a RULE, 4 bytes of THE TAPE");
        FuelTurns x = new FuelTurns();
        for (int what = 0; what < 5; what++) {
            due(x.count(what), 0);
        }
        for (int i = 0; i < 12; i++) {
            x.warn(0, on(1 + i % 2, 0, 0), 5);
            x.look(i, 60, true);
        }
        x.think(0, 60, true);
        x.know(0, 60, 1);
        x.look(0, 101, true);
        for (int i = 0; i < 15; i++) {
            x.feed(0x31313131, 4);
        }
        due(x.count(0), 12);
        due(x.count(1), 12);
        due(x.count(2), 12);
        due(x.count(3), 0);
        due(x.count(4), 60);
        x.days(1);
        due(x.count(0), 12);
        due(x.count(1), 6);
        due(x.count(2), 12);
        due(x.rule(), -8);
        due(x.count(3), 0);
        due(ruleOf(x, "0"), 0);
        due(x.count(3), 1);
        due(x.count(4), 0);
        x.days(1);
        due(x.count(1), 0);
    }

    private static void countNextDay() {
        sentence("count: 5 the next DAY for which there is an OPEN WARNING (-1: none)");
        FuelTurns x = new FuelTurns();
        due(x.count(5), -1);
        x.warn(0, on(999, 0, 0), 0);
        due(x.count(5), 999);
        x.warn(0, on(3, 0, 0), 0);
        x.warn(0, on(7, 0, 0), 0);
        x.warn(0, on(1, 0, 0), 0);
        due(x.count(5), 1);
        x.days(1);
        due(x.count(5), 3);
        x.days(1);
        due(x.count(5), 3);
        x.days(1);
        due(x.count(5), 7);
        x.days(4);
        due(x.count(5), 999);
        due(waits(x, 998).count(5), 999);
        due(waits(x, 999).count(5), -1);
        due(x.status(-1), 0);
    }

    private static void statusLimits() {
        sentence("status: BEYOND (counted from then on): another one");
        FuelTurns x = new FuelTurns();
        due(x.status(-1), 0);
        due(x.status(-2), BEYOND);
        due(x.status(-1), 1);
        due(x.status(7), BEYOND);
        due(x.status(-1), 2);
        due(x.status(LEAST), BEYOND);
        due(x.status(MOST), BEYOND);
        due(x.status(0), 4);
        for (int which = 1; which < 7; which++) {
            due(x.status(which), 0);
        }
        due(x.status(-1), 4);
    }

    private static void statusByKind() {
        sentence("status: which -1: all, 0 to 6: BEYOND to SIZE");
        FuelTurns x = new FuelTurns();
        x.warn(0, on(1, 0, 0), 5);
        int[] counts = new int[7];
        for (int round = 0; round < 3; round++) {
            for (int which = 0; which <= 6; which++) {
                due(answers(x, which), BEYOND - which);
                counts[which]++;
                for (int other = 0; other <= 6; other++) {
                    due(x.status(other), counts[other]);
                }
                due(x.status(-1), 7 * round + which + 1);
            }
        }
    }

    /** An act that answers a finding of a kind. */
    private static long answers(FuelTurns x, int which) {
        switch (which) {
            case 0: return x.may(25);
            case 1:
                for (int i = 0; x.count(4) < 60 && i < 15; i++) {
                    x.feed(0, 4);
                }
                return x.feed(0, 1);
            case 2: return x.as(0, 1);
            case 3: return x.undo();
            case 4: return x.home(0, 0);
            case 5: return x.read(0);
            default: return x.sheet(0, 8, -1);
        }
    }

    private static void statusStays() {
        sentence("status: how many acts answered a finding ever (undo() takes none back)");
        FuelTurns x = new FuelTurns();
        x.may(25);
        x.image();
        x.may(25);
        x.read(0);
        x.undo();
        due(x.status(0), 2);
        due(x.status(5), 1);
        due(x.status(-1), 3);
        x.tear();
        x.undo();
        due(x.status(-1), 4);
        sentence("status: answers that aren't findings aren't counted");
        FuelTurns y = new FuelTurns();
        y.rule();
        y.drift();
        y.wipe();
        y.tear();
        y.may(24);
        y.count(5);
        y.plan(FUEL, 0);
        y.plan(USE, 0);
        y.plan(HARM, 99999999);
        y.warn(0, on(1, 0, 0), 1000000);
        y.rest(8);
        y.best(8, 0);
        due(y.status(-1), 0);
    }

    private static void findingsInLongs() {
        sentence("FINDINGS (in longs, too)");
        FuelTurns x = warned(0, on(1, 0, 0), 5);
        due(x.thing(5), -1000000001L);
        due(x.best(0, 0), -1000000001L);
        due(x.rest(0), -1000000001L);
        due(x.know(1, 50, 1), -1000000001L);
        due(x.write(4, 0, 0), -1000000001L);
        due(x.write(0, 0, 0), -1000000006L);
        x.days(1);
        due(x.know(0, 50, 1), -1000000005L);
    }

    private static void allCalls() {
        sentence("An object is used for at most 512 calls after it has been made");
        FuelTurns x = new FuelTurns();
        for (int i = 0; i < 511; i++) {
            x.undo();
        }
        due(x.status(3), 511);
        FuelTurns y = warned(0, on(999, 0, 0), 500000);
        for (int i = 0; i < 510; i++) {
            due(y.look(0, 50, i % 2 == 0), 500000);
        }
        due(y.count(2), 510);
        FuelTurns z = new FuelTurns();
        for (int i = 0; i < 511; i++) {
            due(z.days(1), i + 1);
        }
        due(z.thing(3), 51100);
    }
}
