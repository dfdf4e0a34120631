import java.util.NoSuchElementException;
import java.util.Random;

/** Any calls with any arguments in any state: what is thrown is told by the document, and then nothing is changed. */
public final class WildTest {
    private static final Random RANDOM = new Random(7);
    private static final String[] TUNES = {
        "m4;c4 d4", "m3;c12 (d2 e2 f2) g6,a12", "m4;c4,d4,e4 r4 f4", "m4;c4 d", "m9;c4", "", "m2;r4 (c1 d1)",
    };
    private static final String[] VERSES = {
        "a b", "'al-le-'lu-ia/'yes", "o/my/'dar-ling", "a-", "abcdefghijk", "", "'long-er", "a b c d e f g",
    };
    private static final int[] EDGES = {
        Integer.MIN_VALUE, Integer.MIN_VALUE + 1, -2, -1, 0, 1, 2, 3, 4, 5, 6, 7, 8, 12, 20, 60, 61, 80, 81, 300,
        400, 440, 441, 1000, 1001, 1380, Integer.MAX_VALUE - 1, Integer.MAX_VALUE,
    };

    public static void main(String[] args) {
        for (int run = 0; run < 300; run++) {
            SungWords x = new SungWords();
            for (int call = 0; call < 100; call++) {
                String before = state(x);
                String answer = wildCall(x);
                if (answer.startsWith("!") || answer.startsWith("=")) {
                    Checks.same(answer, state(x), before);
                }
            }
        }
        Checks.finish();
    }

    private static int any() {
        return EDGES[RANDOM.nextInt(EDGES.length)];
    }

    private static int few() {
        return RANDOM.nextInt(8) == 0 ? any() : RANDOM.nextInt(4);
    }

    /** Begins with ! if it threw, with = if it is an answer that changes nothing. */
    private static String wildCall(SungWords x) {
        int call = RANDOM.nextInt(21);
        int a = few();
        int b = few();
        int c = few();
        boolean best = RANDOM.nextBoolean();
        String what = call + "(" + a + ", " + b + ", " + c + ")";
        try {
            return answer(x, call, a, b, c, best) + what;
        } catch (IndexOutOfBoundsException e) {
            boolean due = takesVerse(call) && (a < 0 || a > 3 || call == 16 && (b < 0 || b > 3));
            Checks.same(what + " threw " + e, due && e.getClass() == IndexOutOfBoundsException.class, true);
            return "!" + what;
        } catch (NoSuchElementException e) {
            boolean due = call == 6 || call == 7 || call == 12 || call == 17 || call == 19;
            Checks.same(what + " threw " + e, due, true);
            return "!" + what;
        }
    }

    private static boolean takesVerse(int call) {
        return call == 4 || call == 7 || call >= 10 && call <= 16 || call == 18;
    }

    private static String answer(SungWords x, int call, int a, int b, int c, boolean best) {
        switch (call) {
            case 0: return x.feed(any(), any(), any(), any(), any()) == -1 ? "=" : "";
            case 1: return x.end(any()) ? "" : "=";
            case 2: x.end(0); Checks.feed(x, TUNES[RANDOM.nextInt(TUNES.length)]); x.tune(); return "";
            case 3: x.end(0); Checks.feed(x, VERSES[RANDOM.nextInt(VERSES.length)]); x.verse(a & 3); return "";
            case 4: x.verse(a); return "";
            case 5: x.fault(); return "=";
            case 6: x.note(a, few()); return "=";
            case 7: x.syllable(a, b, c); return "=";
            case 8: x.transpose(any()); return "";
            case 9: return x.price(a, any()) ? "" : "=";
            case 10: return x.pin(a, b, c) ? "" : "=";
            case 11: x.lay(a); return "";
            case 12: x.cost(a, b); return "=";
            case 13: x.ways(a, b, best); return "=";
            case 14: x.begins(a, b); return "=";
            case 15: x.lies(a, b); return "=";
            case 16: x.alike(a, b, c); return "=";
            case 17: x.column(a); return "=";
            case 18: return x.row(a) == -1 ? "=" : "";
            case 19: x.octet(any()); return "=";
            default: x.count(any()); return "=";
        }
    }

    /** All that calls which change nothing tell of an object. */
    private static String state(SungWords x) {
        StringBuilder all = new StringBuilder();
        for (int what = 0; what < 8; what++) {
            all.append(x.count(what)).append(' ');
        }
        all.append(x.fault()).append(' ').append(Checks.columns(x)).append(Checks.out(x));
        for (int n = 0; n < x.count(0); n++) {
            all.append(' ').append(x.note(n, 0)).append(' ').append(x.note(n, 1));
        }
        for (int v = 0; v < 4; v++) {
            all.append('|').append(Checks.begins(x, v)).append(' ').append(Checks.lies(x, v, 80));
            for (int k = 0; k < 80; k++) {
                all.append(pinOf(x, v, k));
            }
            all.append(x.ways(v, 0, false)).append(' ').append(x.ways(v, 0, true));
        }
        return all.toString();
    }

    private static String pinOf(SungWords x, int v, int k) {
        try {
            return x.syllable(v, k, 0) + "," + x.syllable(v, k, 3) + "," + x.syllable(v, k, 4) + ";";
        } catch (NoSuchElementException e) {
            return "";
        }
    }
}
