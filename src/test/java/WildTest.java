import java.util.NoSuchElementException;
import java.util.Random;

/** Any calls with any arguments in any state: what is thrown is told by the document, and then nothing is changed. */
public final class WildTest {
    private static final String[] TUNES = {
        "m4;c4 d4", "m3;c12 (d2 e2 f2) g6,a12", "m4;c4,d4,e4 r4 f4", "m4;c4 d", "m9;c4", "", "m2;r4 (c1 d1)",
    };
    private static final String[] VERSES = {
        "a b", "'al-le-'lu-ia/'yes", "o/my/'dar-ling", "a-", "abcdefghijk", "", "'long-er", "a b c d e f g",
    };
    private static final int[] EDGES = {
        Integer.MIN_VALUE, Integer.MIN_VALUE + 1, -2, -1, 0, 1, 2, 3, 4, 5, 6, 7, 8, 12, 20, 60, 61, 80, 81, 300,
        400, 440, 441, 1000, 1001, 1380, Integer.MAX_VALUE - 1, Integer.MAX_VALUE,
    };

    private final SungWords x = new SungWords();
    private final Random random;

    private WildTest(int seed) {
        random = new Random(seed);
    }

    public static void main(String[] args) {
        for (int seed = 0; seed < 20000; seed++) {
            WildTest touched = new WildTest(seed);
            WildTest plain = new WildTest(seed);
            for (int call = seed % 40; call > 0; call--) {
                touched.wildCall();
                plain.wildCall();
            }
            String answer = touched.wildCall();
            if (answer.startsWith("!") || answer.startsWith("=")) {
                Checks.same(answer + " behind seed " + seed, Twins.told(touched.x), Twins.told(plain.x));
            }
        }
        Checks.finish();
    }

    private int any() {
        return EDGES[random.nextInt(EDGES.length)];
    }

    private int few() {
        return random.nextInt(8) == 0 ? any() : random.nextInt(4);
    }

    /** Begins with ! if it threw, with = if it is an answer that changes nothing. */
    private String wildCall() {
        int call = random.nextInt(21);
        int a = few();
        int b = few();
        int c = few();
        String what = call + "(" + a + ", " + b + ", " + c + ")";
        try {
            return answer(call, a, b, c, random.nextBoolean()) + what;
        } catch (IndexOutOfBoundsException e) {
            boolean due = takesVerse(call) && (a < 0 || a > 3 || call == 16 && (b < 0 || b > 3));
            Checks.same(what + " threw " + e, due && e.getClass() == IndexOutOfBoundsException.class, true);
            return "!" + what;
        } catch (NoSuchElementException e) {
            boolean due = call == 6 || call == 7 || call == 12 || call == 17 || call == 19;
            Checks.same(what + " threw " + e, due, true);
            return "!" + what;
        }
    }

    private static boolean takesVerse(int call) {
        return call == 4 || call == 7 || call >= 10 && call <= 16 || call == 18;
    }

    private String answer(int call, int a, int b, int c, boolean best) {
        switch (call) {
            case 0: return x.feed(any(), any(), any(), any(), any()) == -1 ? "=" : "";
            case 1: return x.end(any()) ? "" : "=";
            case 2: read(TUNES); x.tune(); return "";
            case 3: read(VERSES); x.verse(a & 3); return "";
            case 4: x.verse(a); return "";
            case 5: x.fault(); return "=";
            case 6: x.note(a, few()); return "=";
            case 7: x.syllable(a, b, c); return "=";
            case 8: x.transpose(any()); return "";
            case 9: return x.price(a, any()) ? "" : "=";
            case 10: return x.pin(a, b, c) ? "" : "=";
            case 11: return x.lay(a) == -1 ? "=" : "";
            case 12: x.cost(a, b); return "=";
            case 13: x.ways(a, b, best); return "=";
            case 14: x.begins(a, b); return "=";
            case 15: x.lies(a, b); return "=";
            case 16: x.alike(a, b, c); return "=";
            case 17: x.column(a); return "=";
            case 18: return x.row(a) == -1 ? "=" : "";
            case 19: x.octet(any()); return "=";
            default: x.count(any()); return "=";
        }
    }

    private void read(String[] texts) {
        x.end(0);
        Checks.feed(x, texts[random.nextInt(texts.length)]);
    }
}
