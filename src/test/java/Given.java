/** What the tests share: the findings by name, short ways to put a thing into a state, a sentence's answers. */
abstract class Given {
    static final int BEYOND = -1000000001;
    static final int FULL = -1000000002;
    static final int KIND = -1000000003;
    static final int NONE = -1000000004;
    static final int STATE = -1000000005;
    static final int MISSING = -1000000006;
    static final int SIZE = -1000000007;

    static final int LEAST = Integer.MIN_VALUE;
    static final int MOST = Integer.MAX_VALUE;

    static final int PRICE = 0;
    static final int USE = 1;
    static final int OFF = 2;
    static final int HARM = 3;
    static final int KEEP = 4;
    static final int FUEL = 5;

    private static String sentence = "";
    private static int answers = 0;

    /** The document's words that the answers asked for from here on hold the class to. */
    static void sentence(String words) {
        sentence = words;
        answers = 0;
    }

    /** An answer is told by its place behind its sentence. */
    static void due(long got, long want) {
        answers++;
        Check.due("'" + sentence + "', answer " + answers, got, want);
    }

    /** A WARNING for a DAY at a HEIGHT with a WIDTH, as warn wants it. */
    static int on(int day, int at, int width) {
        return 10000 * day + 100 * (at + 12) + width;
    }

    /** Four bytes a call, so that a whole TAPE costs 15 of an object's 512 calls. */
    static void feedText(FuelTurns x, String text) {
        for (int at = 0; at < text.length(); at += 4) {
            int n = Math.min(4, text.length() - at);
            int bytes = 0;
            for (int i = 0; i < n; i++) {
                bytes = bytes << 8 | text.charAt(at + i);
            }
            x.feed(bytes, n);
        }
    }

    static int ruleOf(FuelTurns x, String text) {
        x.wipe();
        feedText(x, text);
        return x.rule();
    }

    static void sheetOf(FuelTurns x, int s, int bits, long... numbers) {
        x.sheet(s, bits, numbers.length);
        for (int i = 0; i < numbers.length; i++) {
            x.write(s, i, numbers[i]);
        }
    }

    /** Lets DAYS end till a later one is TODAY. */
    static FuelTurns waits(FuelTurns x, int day) {
        for (int left = day - (int) x.thing(0); left > 0; left -= 100) {
            x.days(Math.min(left, 100));
        }
        return x;
    }

    /** A thing on a DAY. */
    static FuelTurns onDay(int day) {
        return waits(new FuelTurns(), day);
    }

    /** A thing at a HEIGHT with so much FUEL. */
    static FuelTurns at(int height, int fuel) {
        FuelTurns x = new FuelTurns();
        x.plan(FUEL, 60);
        x.move(height);
        x.plan(FUEL, fuel);
        return x;
    }

    /** A thing with one WARNING. */
    static FuelTurns warned(int kind, int of, int chance) {
        FuelTurns x = new FuelTurns();
        x.warn(kind, of, chance);
        return x;
    }

    /** One of THE PLAN, which can only be asked by changing it: 1 may be any of them. */
    static int planned(FuelTurns x, int what) {
        int is = x.plan(what, 1);
        x.plan(what, is);
        return is;
    }
}
