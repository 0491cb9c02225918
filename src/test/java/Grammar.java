import java.util.Map;

/** A TEXT of a RULE by its grammar: each part answers all the places at which it may end, as bits. */
final class Grammar {
    private final String text;
    private final Map<Character, Integer> names;
    private int at = 0;

    Grammar(String text, Map<Character, Integer> names) {
        this.text = text;
        this.names = names;
    }

    // ---- whether it is one: texts of at most 120 bytes, so that two longs hold all places

    private static boolean[] ends(String t) {
        return new boolean[t.length() + 1];
    }

    private static boolean[] sums(String t, int from, int open) {
        boolean[] all = ends(t);
        boolean[] last = parts(t, from, open);
        boolean more = true;
        while (more) {
            more = false;
            boolean[] next = ends(t);
            for (int i = 0; i < last.length; i++) {
                if (!last[i]) continue;
                all[i] = true;
                if (i < t.length() && (t.charAt(i) == '+' || t.charAt(i) == '-')) {
                    boolean[] p = parts(t, i + 1, open);
                    for (int j = 0; j < p.length; j++) {
                        next[j] |= p[j];
                        more |= p[j];
                    }
                }
            }
            last = next;
        }
        return all;
    }

    private static boolean[] parts(String t, int from, int open) {
        boolean[] all = ends(t);
        if (from >= t.length()) return all;
        char c = t.charAt(from);
        if ("cdfhnt".indexOf(c) >= 0) all[from + 1] = true;
        for (int n = 1; n <= 7 && from + n <= t.length() && isDigit(t.charAt(from + n - 1)); n++) all[from + n] = true;
        if (c == '-' && open < 5) {
            boolean[] p = parts(t, from + 1, open + 1);
            for (int i = 0; i < p.length; i++) all[i] |= p[i];
        }
        if (c == '(' && open < 5) {
            boolean[] s = sums(t, from + 1, open + 1);
            for (int i = 0; i < t.length(); i++) all[i + 1] |= s[i] && t.charAt(i) == ')';
        }
        return all;
    }

    private static boolean isDigit(char c) {
        return c >= '0' && c <= '9';
    }

    private static boolean isTest(String t) {
        boolean[] left = sums(t, 0, 0);
        for (int i = 0; i < t.length(); i++) {
            if (left[i] && "<=>".indexOf(t.charAt(i)) >= 0 && isSum(t.substring(i + 1))) return true;
        }
        return false;
    }

    private static boolean isSum(String t) {
        return sums(t, 0, 0)[t.length()];
    }

    private static boolean isCondition(String t) {
        for (String test : t.split("&", -1)) {
            if (!isTest(test)) return false;
        }
        return true;
    }

    static boolean isText(String t) {
        int q = t.indexOf('?');
        if (q < 0) return isSum(t);
        int colon = t.indexOf(':', q);
        return colon >= 0 && isCondition(t.substring(0, q)) && isSum(t.substring(q + 1, colon))
                && isText(t.substring(colon + 1));
    }

    /** Whether some TEXT begins so: it is enough to try the shortest ways on. */
    static boolean begins(String t) {
        for (String part : new String[] {"", "1"}) {
            for (String close : new String[] {"", ")", "))", ")))", "))))", ")))))"}) {
                for (String rest : new String[] {"", "<1?1:1", "?1:1", ":1"}) {
                    if (isText(t + part + close + rest)) return true;
                }
            }
        }
        return false;
    }

    /** -1 for a TEXT. */
    static int fault(String t) {
        for (int i = 0; i < t.length(); i++) {
            if (!begins(t.substring(0, i + 1))) return i;
        }
        return isText(t) ? -1 : t.length();
    }

    // ---- what it tells, if it is one

    int tells() {
        int first = sum();
        if (at == text.length() || text.charAt(at) == ':') return first;
        boolean holds = compare(first);
        while (text.charAt(at) == '&') {
            at++;
            holds = compare(sum()) & holds;
        }
        at++;
        int then = sum();
        at++;
        int other = tells();
        return holds ? then : other;
    }

    private boolean compare(int left) {
        char c = text.charAt(at++);
        int right = sum();
        return c == '<' ? left < right : c == '>' ? left > right : left == right;
    }

    private int sum() {
        int sum = part();
        while (at < text.length() && (text.charAt(at) == '+' || text.charAt(at) == '-')) {
            sum += text.charAt(at++) == '+' ? part() : -part();
        }
        return sum;
    }

    private int part() {
        char c = text.charAt(at);
        if (isDigit(c)) {
            int from = at;
            while (at < text.length() && isDigit(text.charAt(at))) at++;
            return Integer.parseInt(text.substring(from, at));
        }
        at++;
        if (c == '-') return -part();
        if (c == '(') {
            int sum = sum();
            at++;
            return sum;
        }
        return names.get(c);
    }
}
