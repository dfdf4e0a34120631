/** Promises 10 to 17: prices, pins, layings and all that is asked of them. */
public final class LayTest {
    private static final String TUNE = "m4;c4 d4 e4 f4,(g2 a2) b4 r4 c4";
    private static final String ROSES = "'ro-ses 'are red/ 'sing 'now";

    public static void main(String[] args) {
        layings();
        likeCosts();
        whereOneMustBegin();
        costsOfSlurs();
        noLaying();
        prices();
        pins();
        costs();
        waysCounted();
        manyWays();
        beginsAndLies();
        alikes();
        fullSizes();
        Checks.finish();
    }

    private static void laid(String tune, String verse, int cost, String begins) {
        SungWords x = Checks.with(tune, verse);
        Checks.same("lay <" + verse + "> to <" + tune + ">", x.lay(0), cost);
        Checks.same("begins of <" + verse + "> on <" + tune + ">", Checks.begins(x, 0), begins);
    }

    private static void layings() {
        laid(TUNE, ROSES, 17, "11111001");
        laid("m4;c4", "'a", 0, "1");
        laid("m4;c4", "a", 3, "1");
        laid("m4;c4", "'a 'b", 6, "2");
        // The stressed one waits for the strong note, or comes on it with another.
        laid("m3;c4 d4 e4 f4", "'a 'b", 3 + 3, "1001");
        laid("m4;c4 d4", "'a 'b c", 6 + 1, "21");
        laid("m2;c4 d4,e4 f4", "'a b/c 'd", 1 + 3 + 8, "1111");
    }

    private static void likeCosts() {
        SungWords x = Checks.with("m4;c4 d4 e4 f4", "a b c d");
        for (int k = 0; k < 5; k++) {
            x.price(k, 0);
        }
        Checks.same("all ways cost nothing", x.lay(0), 0);
        Checks.same("fewer come first", Checks.begins(x, 0), "1012");
        x.price(4, 1);
        Checks.same("no two on a note", x.lay(0), 0);
        Checks.same("one on each", Checks.begins(x, 0), "1111");
        x.price(2, 1);
        x.price(4, 0);
        Checks.same("none held", x.lay(0), 0);
        Checks.same("one on each", Checks.begins(x, 0), "1111");
    }

    private static void whereOneMustBegin() {
        SungWords x = Checks.with("m4;c4 d4 r4 e4 f4,g4 r4,a4 b4", "a b c/d/e");
        for (int k = 0; k < 5; k++) {
            x.price(k, 0);
        }
        Checks.same("lay", x.lay(0), 0);
        Checks.same("one behind the rest at least", Checks.begins(x, 0), "1011110");
        Checks.same("too few for the rests", Checks.with("m4;c4 r4 d4 r4 e4", "a b").lay(0), -1);
        Checks.same("just enough", Checks.with("m4;c4 r4 d4 r4 e4", "'a 'b 'c").lay(0) >= 0, true);
        Checks.same("a rest ahead of a slur", Checks.with("m4;c4 r4 (d4 e4)", "a").lay(0), -1);
        Checks.same("a rest at a phrase's end", Checks.with("m4;c4 r4,d4 e4", "a/b").lay(0) >= 0, true);
    }

    private static void costsOfSlurs() {
        // Held within a slur costs nothing; on its first note, as on a note in none, cost 2.
        laid("m4;(c4 d4 e4)", "'a", 0, "100");
        laid("m4;c4 (d4 e4)", "'a", 3, "100");
        laid("m4;c4 d4 (e4 f4)", "'a", 6, "1000");
        laid("m4;(c16 d16)", "'a 'b", 5, "11");
        laid("m4;(c16 d16)", "'a 'b 'c 'd", 5 + 6 + 6, "22");
        laid("m4;(c16 d16) e16", "'a 'b", 0, "101");
    }

    private static void noLaying() {
        SungWords x = new SungWords();
        Checks.verse(x, 0, "a");
        Checks.same("lay without a tune", x.lay(0), -1);
        Checks.same("ways without a tune", x.ways(0, 0, false), -1);
        Checks.tune(x, "m4;c4,d4");
        Checks.same("fewer lines", x.lay(0), -1);
        Checks.same("ways of fewer lines", x.ways(0, 0, false), -1);
        Checks.same("no syllables", x.lay(1), -1);
        Checks.same("ways of no syllables", x.ways(1, 0, false), -1);
        Checks.verse(x, 0, "a/b/c");
        Checks.same("more lines", x.lay(0), -1);
        Checks.verse(x, 0, "a b/c d e");
        Checks.same("too many on the second phrase", x.lay(0), -1);
        Checks.same("not laid", x.count(4), 0);
        Checks.same("begins", x.begins(0, 0), -1);
        Checks.same("lies", x.lies(0, 0), -1);
        Checks.same("row", x.row(0), -1);
        Checks.noSuchElement("cost", () -> x.cost(0, 0));
        Checks.same("ways of the first line", x.ways(0, 0, false), 1);
        Checks.same("ways of the second line", x.ways(0, 1, false), 0);
        Checks.same("best ways of the second line", x.ways(0, 1, true), 0);
    }

    private static void prices() {
        SungWords x = Checks.with(TUNE, ROSES, "o my-'self and/'you now");
        x.lay(0);
        x.lay(1);
        int[][] wrong = {{-1, 1}, {5, 1}, {0, -1}, {0, 1001}, {Integer.MIN_VALUE, 0}, {Integer.MAX_VALUE, 0},
            {4, Integer.MIN_VALUE}, {4, Integer.MAX_VALUE}};
        for (int[] w : wrong) {
            Checks.same("price(" + w[0] + ", " + w[1] + ")", x.price(w[0], w[1]), false);
        }
        Checks.same("still laid", x.count(4), 2);
        Checks.same("price as it is", x.price(0, 4), true);
        Checks.same("laid no more", x.count(4), 0);
        Checks.same("lay again", x.lay(0), 17);
        // Held once, stressed on 3 less 1 and on 3 less 2 and on 3 less 1; unstressed on 1 and 1.
        Checks.same("price(0, 1000)", x.price(0, 1000), true);
        Checks.same("price(0, 0)", x.price(0, 0), true);
        Checks.same("stress costs nothing", x.lay(0), 17 - 3 * 4);
        priceAlone(0, Checks.with("m4;r1 c4", "'a"), 3000);
        priceAlone(1, Checks.with("m4;c4", "a"), 3000);
        priceAlone(2, Checks.with("m4;c4 d4 (e4 f4)", "'a"), 2000);
        SungWords slurred = Checks.with("m4;(c16 d16)", "'a 'b");
        slurred.pin(0, 1, 1);
        priceAlone(3, slurred, 1000);
        priceAlone(4, Checks.with("m4;c16", "'a 'b"), 1000);
    }

    private static void priceAlone(int k, SungWords x, int cost) {
        for (int other = 0; other < 5; other++) {
            Checks.same("price", x.price(other, other == k ? 1000 : 0), true);
        }
        Checks.same("cost " + k + " alone", x.lay(0), cost);
    }

    private static void pins() {
        SungWords x = Checks.with(TUNE, ROSES);
        x.lay(0);
        Checks.same("pin to a note", x.pin(0, 1, 2), true);
        Checks.same("not laid then", x.count(4), 0);
        Checks.same("it tells", x.syllable(0, 1, 4), 2);
        Checks.same("lay", x.lay(0), 27);
        Checks.same("begins there", x.lies(0, 1), 2);
        Checks.same("so already", x.pin(0, 1, 2), false);
        Checks.same("none already", x.pin(0, 0, -1), false);
        Checks.same("no such syllable", x.pin(0, 6, 0), false);
        Checks.same("no such syllable", x.pin(0, -1, 0), false);
        Checks.same("no such note", x.pin(0, 0, 8), false);
        Checks.same("no such note", x.pin(0, 0, -2), false);
        Checks.same("no such note", x.pin(0, 0, Integer.MAX_VALUE), false);
        Checks.same("no syllables", x.pin(1, 0, 0), false);
        Checks.same("still laid", x.count(4), 1);
        Checks.same("in the place of another", x.pin(0, 1, 1), true);
        Checks.same("it tells", x.syllable(0, 1, 4), 1);
        Checks.same("lay", x.lay(0), 17);
        Checks.same("another phrase's note", x.pin(0, 1, 4), true);
        Checks.same("no laying", x.lay(0), -1);
        Checks.same("no ways", x.ways(0, 0, false), 0);
        Checks.same("to none", x.pin(0, 1, -1), true);
        Checks.same("lay", x.lay(0), 17);
        SungWords none = new SungWords();
        Checks.verse(none, 0, "a");
        Checks.same("no tune: no such note", none.pin(0, 0, 0), false);
        pinsAgainstEachOther();
    }

    private static void pinsAgainstEachOther() {
        SungWords x = Checks.with("m4;c4 d4 e4", "a b c", "a b c");
        x.pin(0, 0, 0);
        x.pin(0, 1, 0);
        x.pin(0, 2, 0);
        Checks.same("three on a note", x.lay(0), -1);
        x.pin(0, 2, 1);
        Checks.same("two on a note", x.ways(0, 0, false), 1);
        Checks.same("lay", x.lay(0), 3 + 3 + 6 + 1 + 3);
        Checks.same("begins", Checks.begins(x, 0), "210");
        x.pin(0, 0, 1);
        Checks.same("the first one on no other note", x.lay(0), -1);
        x.lay(1);
        x.pin(0, 0, 0);
        Checks.same("another verse stays laid", x.count(4), 1);
    }

    private static void costs() {
        SungWords x = Checks.with(TUNE, ROSES);
        Checks.noSuchElement("cost ahead of lay", () -> x.cost(0, 0));
        x.lay(0);
        Checks.same("cost(0, 0)", x.cost(0, 0), 6);
        Checks.same("cost(0, 1)", x.cost(0, 1), 11);
        for (int p : new int[] {-1, 2, 12, Integer.MIN_VALUE, Integer.MAX_VALUE}) {
            Checks.noSuchElement("cost(0, " + p + ")", () -> x.cost(0, p));
        }
        Checks.noSuchElement("cost of another verse", () -> x.cost(1, 0));
    }

    private static void waysCounted() {
        SungWords x = Checks.with(TUNE, ROSES);
        Checks.same("ways", x.ways(0, 0, false), 13);
        Checks.same("best ways", x.ways(0, 0, true), 1);
        Checks.same("ways of the second", x.ways(0, 1, false), 1);
        Checks.same("no such line", x.ways(0, 2, false), -1);
        Checks.same("no such line", x.ways(0, -1, true), -1);
        x.lay(0);
        x.ways(0, 1, true);
        Checks.same("ways leave the laying", Checks.begins(x, 0), "11111001");
        Checks.same("ways leave the cost", x.cost(0, 0), 6);
        x.pin(0, 3, 2);
        // 112, 121, 202 and 211 on the first three notes.
        Checks.same("pins are kept", x.ways(0, 0, false), 4);
    }

    private static void manyWays() {
        // All of 60 notes but the first take 0, 1 or 2.
        String tune = "m4;" + "c16 ".repeat(60);
        SungWords x = Checks.with(tune, "a ".repeat(60), "a ".repeat(60));
        for (int k = 0; k < 5; k++) {
            x.price(k, 0);
        }
        Checks.same("10^15 at most", x.ways(0, 0, false), 1000000000000000L);
        Checks.same("10^15 at most, best", x.ways(0, 0, true), 1000000000000000L);
        x.price(4, 1);
        Checks.same("the best alone", x.ways(0, 0, true), 1);
        SungWords below = Checks.with("m4;" + "c1 ".repeat(37), "a ".repeat(50));
        Checks.same("just below", below.ways(0, 0, false), 960067104381450L);
        SungWords above = Checks.with("m4;" + "c1 ".repeat(38), "a ".repeat(53));
        Checks.same("just above", above.ways(0, 0, false), 1000000000000000L);
    }

    private static void beginsAndLies() {
        SungWords x = Checks.with("m4;c4 d4 e4,f4", "'a b 'c d/e f");
        Checks.same("begins ahead of lay", x.begins(0, 0), -1);
        Checks.same("lies ahead of lay", x.lies(0, 0), -1);
        x.pin(0, 1, 0);
        x.pin(0, 2, 2);
        x.lay(0);
        Checks.same("begins", Checks.begins(x, 0), "2022");
        Checks.same("lies", Checks.lies(x, 0, 6), "0 0 2 2 3 3");
        for (int k : new int[] {-1, Integer.MIN_VALUE, Integer.MAX_VALUE, 60}) {
            Checks.same("begins(0, " + k + ")", x.begins(0, k), -1);
            Checks.same("lies(0, " + k + ")", x.lies(0, k), -1);
        }
        Checks.same("begins(0, 4)", x.begins(0, 4), -1);
        Checks.same("lies(0, 6)", x.lies(0, 6), -1);
        Checks.same("begins of another", x.begins(3, 0), -1);
    }

    private static void alikes() {
        SungWords x = Checks.with("m4;c4 d4,e4 f4", "'a 'b/c d", "a b/'c 'd", "'a b/c");
        Checks.same("none laid", x.alike(0, 1, 0), false);
        x.lay(0);
        Checks.same("one laid", x.alike(0, 1, 0), false);
        Checks.same("one laid", x.alike(1, 0, 0), false);
        Checks.same("with itself", x.alike(0, 0, 1), true);
        x.lay(1);
        x.lay(2);
        Checks.same("phrase 0", x.alike(0, 1, 0), true);
        Checks.same("phrase 1", x.alike(1, 0, 1), true);
        Checks.same("phrase 0 of another", x.alike(2, 0, 0), true);
        Checks.same("phrase 1 of another", x.alike(2, 0, 1), false);
        Checks.same("no such phrase", x.alike(0, 1, 2), false);
        Checks.same("no such phrase", x.alike(0, 0, -1), false);
        x.pin(1, 1, 0);
        x.lay(1);
        Checks.same("the first phrase alone is other", x.alike(0, 1, 0), false);
        Checks.same("the second one is alike", x.alike(0, 1, 1), true);
    }

    private static void fullSizes() {
        SungWords x = Checks.with("m4;" + "c16 ".repeat(60), "'a ".repeat(80), "'a ".repeat(60), "'a");
        Checks.same("80 on 60", x.lay(0), 20 * 6 + 0);
        Checks.same("the first ones have one", x.begins(0, 0) + x.begins(0, 39), 2);
        Checks.same("the last ones have two", x.begins(0, 40) + x.begins(0, 59), 4);
        Checks.same("60 on 60", x.lay(1), 0);
        Checks.same("1 on 60", x.lay(2), 59 * 3);
        SungWords y = Checks.with("m4;c16" + ",c16".repeat(11), "'a 'b" + "/'a 'b".repeat(11));
        Checks.same("12 phrases", y.lay(0), 12 * 6);
        Checks.same("cost of the last", y.cost(0, 11), 6);
    }
}
