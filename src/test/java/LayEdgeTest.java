/** Each sentence of the document's part 3 and of promises 10 to 17 that names an edge: at it, below it, above it. */
public final class LayEdgeTest {
    private static final int[] FAR = {Integer.MIN_VALUE, Integer.MAX_VALUE};

    public static void main(String[] args) {
        asManyLines();
        lineByLine();
        twoOnANoteAtMost();
        oneOnANoteAtLeast();
        pinnedBeginThere();
        costsOfStress();
        costOfHolding();
        costInASlur();
        costOfTwo();
        leastOfAllWays();
        firstOfLikeOnes();
        prices();
        priceTakesLayings();
        pins();
        pinTakesItsLaying();
        layings();
        costsOfPhrases();
        waysOfLines();
        waysUpToMany();
        beginsOnNotes();
        liesOfSyllables();
        alikePhrases();
        Checks.finish();
    }

    private static void laid(String tune, String verse, int cost, String begins) {
        SungWords x = Checks.with(tune, verse);
        Checks.same("lay <" + verse + "> to <" + tune + ">", x.lay(0), cost);
        Checks.same("begins of <" + verse + "> on <" + tune + ">", Checks.begins(x, 0), begins);
        Checks.same("laid", x.count(4), 1);
    }

    private static void noLaying(String tune, String verse) {
        SungWords x = Checks.with(tune, verse);
        Checks.same("lay <" + verse + "> to <" + tune + ">", x.lay(0), -1);
        Checks.same("laid", x.count(4), 0);
        Checks.same("ways", x.ways(0, 0, false), 0);
        Checks.same("best ways", x.ways(0, 0, true), 0);
    }

    private static SungWords withoutPrices(String tune, String... verses) {
        SungWords x = Checks.with(tune, verses);
        for (int k = 0; k < 5; k++) {
            x.price(k, 0);
        }
        return x;
    }

    private static void asManyLines() {
        Checks.sentence("LAYING of a VERSE with as many LINES as the TUNE has PHRASES");
        for (int phrases = 1; phrases <= 12; phrases++) {
            for (int lines = 1; lines <= 12; lines++) {
                SungWords x = Checks.with("m4;c16" + ",c16".repeat(phrases - 1), "'a" + "/'a".repeat(lines - 1));
                boolean fits = lines == phrases;
                Checks.same(lines + " lines to " + phrases, x.lay(0), fits ? 0 : -1);
                Checks.same("laid", x.count(4), fits ? 1 : 0);
                Checks.same("ways of the first", x.ways(0, 0, false), fits ? 1 : -1);
                Checks.same("ways of the last", x.ways(0, lines - 1, true), fits ? 1 : -1);
                Checks.same("where the last lies", x.lies(0, lines - 1), fits ? lines - 1 : -1);
            }
        }
    }

    private static void lineByLine() {
        Checks.sentence("LINE by LINE to PHRASE by PHRASE.");
        SungWords x = Checks.with("m4;c16 d16,e16 f16", "'a/'b 'c", "'a 'b/'c", "'a 'b 'c 'd/'e");
        String[] due = {"0 2 3", "0 1 2", "0 0 1 1 2"};
        for (int v = 0; v < 3; v++) {
            x.lay(v);
            Checks.same("lies", Checks.lies(x, v, v < 2 ? 3 : 5), due[v]);
        }
        noLaying("m4;c16,d16 e16", "'a 'b 'c/'d");
    }

    private static void twoOnANoteAtMost() {
        Checks.sentence("On each NOTE 0, 1 or 2 SYLLABLES BEGIN, in order, so that all of the LINE's begin on the PHRASE's");
        for (int notes : new int[] {1, 2, 3, 39}) {
            String tune = "m4;" + "c16 ".repeat(notes);
            laid(tune, "'a ".repeat(2 * notes), 6 * notes, "2".repeat(notes));
            laid(tune, "'a ".repeat(2 * notes - 1), 6 * notes - 6, "1" + "2".repeat(notes - 1));
            noLaying(tune, "'a ".repeat(2 * notes + 1));
        }
        laid("m4;" + "c16 ".repeat(40), "'a ".repeat(80), 240, "2".repeat(40));
        SungWords x = Checks.with("m4;" + "c16 ".repeat(41), "'a ".repeat(80));
        // One of 40 notes has none, or two of 41 have one.
        Checks.same("80 on 41", x.ways(0, 0, false), 40 + 41 * 40 / 2);
        SungWords y = Checks.with("m4;" + "c16 ".repeat(60), "'a", "'a 'b");
        Checks.same("1 on 60", y.ways(0, 0, false), 1);
        Checks.same("2 on 60", y.ways(1, 0, false), 60);
        noLaying("m4;c16 d16,e16 f16", "a b c d e/f");
        SungWords z = Checks.with("m4;c16 d16,e16", "a/b c d");
        Checks.same("a later line's own phrase is too short", z.lay(0), -1);
        Checks.same("ways of the first", z.ways(0, 0, false), 1);
        Checks.same("ways of the second", z.ways(0, 1, false), 0);
        Checks.same("lies", z.lies(0, 0), -1);
    }

    private static void oneOnANoteAtLeast() {
        Checks.sentence("on a PHRASE's first NOTE and on one right behind a REST 1 at least.");
        String tune = "m4;c4 r4 d4 r4 e4 f4";
        noLaying(tune, "a");
        noLaying(tune, "a b");
        SungWords x = withoutPrices(tune, "a b c", "a b c d");
        Checks.same("just enough", x.ways(0, 0, false), 1);
        x.lay(0);
        Checks.same("begins", Checks.begins(x, 0), "1110");
        Checks.same("one more", x.ways(1, 0, false), 4);
        laid("m4;r4 c16 d16", "'a", 8 + 3, "10");
        noLaying("m4;c16 r16 (d16 e16)", "a");
        noLaying("m4;c16 r1 r1 r14 d16", "a");
        laid("m4;c16 d16 r16", "'a", 3, "10");
        laid("m4;c16 (d16 e16) r16,c16", "'a/'a", 3, "1001");
        // No more syllables than the rests ask for may be too many for a phrase's first note alone.
        SungWords first = withoutPrices("m4;c4 d4", "a", "a b");
        Checks.same("one on the first", first.ways(0, 0, false), 1);
        Checks.same("one or two on the first", first.ways(1, 0, false), 2);
    }

    private static void pinnedBeginThere() {
        Checks.sentence("A SYLLABLE that is PINNED to a NOTE begins there.");
        long[][] due = {{5, 0, 0}, {2, 2, 1}, {0, 2, 3}};
        for (int k = 0; k < 3; k++) {
            for (int note = 0; note < 3; note++) {
                SungWords x = Checks.with("m4;c4 d4 e4", "a b c");
                Checks.same("all ways", x.ways(0, 0, false), 5);
                Checks.same("pin", x.pin(0, k, note), true);
                Checks.same("syllable " + k + " on note " + note, x.ways(0, 0, false), due[k][note]);
                Checks.same("laid", x.lay(0) >= 0, due[k][note] > 0);
                Checks.same("lies", x.lies(0, k), due[k][note] > 0 ? note : -1);
            }
        }
        SungWords x = Checks.with("m4;c4 d4,e4 f4", "a b/c d");
        x.pin(0, 1, 2);
        Checks.same("the next phrase's first", x.lay(0), -1);
        x.pin(0, 1, 1);
        x.pin(0, 2, 1);
        Checks.same("the phrase ahead's last", x.lay(0), -1);
        x.pin(0, 2, 2);
        Checks.same("its own", x.lay(0) >= 0, true);
        SungWords most = Checks.with("m4;" + "c16 ".repeat(60), "'a ".repeat(80));
        most.pin(0, 79, 38);
        Checks.same("79 ahead of it have no room", most.lay(0), -1);
        most.pin(0, 79, 39);
        Checks.same("just room", most.ways(0, 0, false), 1);
        most.pin(0, 79, 59);
        Checks.same("room", most.lay(0), 120);
        most.pin(0, 0, 59);
        Checks.same("none on the first note", most.lay(0), -1);
    }

    private static void costsOfStress() {
        Checks.sentence("for each SYLLABLE that is STRESSED: COST 0 times 3 less STRONG of the NOTE where it begins; "
                + "for each other one COST 1 times STRONG");
        SungWords x = Checks.with("m4;c8,d4,e1,f1", "'a/'a/'a/'a", "a/a/a/a", "'a 'b/a 'b/'a b/a b");
        int[][] due = {{0, 4, 8, 12}, {3, 2, 1, 0}, {6, 12, 15, 6}};
        for (int v = 0; v < 3; v++) {
            Checks.same("lay", x.lay(v), due[v][0] + due[v][1] + due[v][2] + due[v][3]);
            for (int p = 0; p < 4; p++) {
                Checks.same("strong", x.note(p, 3), 3 - p);
                Checks.same("verse " + v + " on strong " + (3 - p), x.cost(v, p), due[v][p]);
            }
        }
    }

    private static void costOfHolding() {
        Checks.sentence("COST 2 for each NOTE on which one is HELD that is not in a SLUR, or is the first one of it");
        laid("m4;c16", "'a", 0, "1");
        laid("m4;c16 d16", "'a", 3, "10");
        laid("m4;c16 d16 e16", "'a", 6, "100");
        laid("m4;(c16 d16)", "'a", 0, "10");
        laid("m4;(c16 d16 e16)", "'a", 0, "100");
        laid("m4;c16 (d16 e16)", "'a", 3, "100");
        laid("m4;(c16 d16)(e16 f16)", "'a", 3, "1000");
        laid("m4;(c16 d16) e16", "'a", 3, "100");
        laid("m4;c16" + " c16".repeat(59), "'a", 59 * 3, "1" + "0".repeat(59));
    }

    private static void costInASlur() {
        Checks.sentence("COST 3 for each NOTE of a SLUR, but its first one, on which one begins");
        laid("m4;c16 (d16 e16)", "'a 'b", 0, "110");
        laid("m4;(c16 d16)", "'a 'b", 5, "11");
        laid("m4;(c16 d16 e16)", "'a 'b 'c", 10, "111");
        // Two on a note of a slur are one such note.
        laid("m4;(c16 d16)", "'a 'b 'c", 11, "12");
        laid("m4;(c16 d16)", "'a 'b 'c 'd", 17, "22");
        laid("m4;(c16 d16) (e16 f16)", "'a 'b", 0, "1010");
        laid("m4;(c16 d16) e16", "'a 'b 'c", 5, "111");
    }

    private static void costOfTwo() {
        Checks.sentence("COST 4 for each NOTE on which two begin.");
        laid("m4;c16", "'a 'b", 6, "2");
        laid("m4;c16 d16", "'a 'b", 0, "11");
        laid("m4;c16 d16", "'a 'b 'c", 6, "12");
        laid("m4;c16 d16", "'a 'b 'c 'd", 12, "22");
    }

    private static void leastOfAllWays() {
        Checks.sentence("COST: for each SYLLABLE");
        Checks.sentence("The LAYING has the least COST");
        String[] verses = {"'a b 'c", "a 'b c", "a b 'c", "'a 'b 'c", "a b c"};
        for (String verse : verses) {
            SungWords x = Checks.with("m4;c4 (d2 e2) f4", verse);
            int due = x.lay(0);
            long ways = x.ways(0, 0, false);
            long best = x.ways(0, 0, true);
            int least = Integer.MAX_VALUE;
            // All three pinned leave one way or none.
            for (int code = 0; code < 64; code++) {
                x.pin(0, 0, code / 16);
                x.pin(0, 1, code / 4 % 4);
                x.pin(0, 2, code % 4);
                int cost = x.lay(0);
                ways -= cost < 0 ? 0 : 1;
                best -= cost == due ? 1 : 0;
                least = cost < 0 ? least : Math.min(least, cost);
            }
            Checks.same("least of <" + verse + ">", least, due);
            Checks.same("ways of <" + verse + "> that were not met", ways, 0);
            Checks.same("best ways of <" + verse + "> that were not met", best, 0);
        }
    }

    private static void firstOfLikeOnes() {
        Checks.sentence("of like ones the first: at the first NOTE on which other numbers begin it has fewer.");
        String[] due = {"1000", "1001", "1002", "1012", "1022", "1122", "1222", "2222"};
        for (int syllables = 1; syllables <= 8; syllables++) {
            SungWords x = withoutPrices("m4;c4 d4 e4 f4", "a ".repeat(syllables));
            Checks.same("lay", x.lay(0), 0);
            Checks.same(syllables + " where all cost nothing", Checks.begins(x, 0), due[syllables - 1]);
        }
        laid("m4;c16 d16 e16", "'a 'b", 3, "101");
        laid("m4;c16 d16 e16 f16", "'a 'b", 6, "1001");
        laid("m4;c16 d16,e16 f16", "'a 'b 'c/'d 'e 'f", 12, "1212");
    }

    /** The verse's cost if one price is as told and the others are nothing. */
    private static int costAlone(String tune, String verse, int k, int c) {
        SungWords x = withoutPrices(tune, verse);
        Checks.same("price(" + k + ", " + c + ")", x.price(k, c), true);
        return x.lay(0);
    }

    private static void prices() {
        Checks.sentence("COST k is c (0 to 1000; no VERSE is LAID then): true; false, and nothing is changed, "
                + "if they are not as told.");
        String[] tunes = {"m4;r1 c1", "m4;c1", "m4;c4 d4", "m4;(c4 d4)", "m4;c4"};
        String[] verses = {"'a", "a", "a", "a b c d", "a b"};
        int[] times = {3, 3, 1, 1, 1};
        for (int k = 0; k < 5; k++) {
            for (int c : new int[] {0, 1, 999, 1000}) {
                Checks.same("cost " + k + " of " + c, costAlone(tunes[k], verses[k], k, c), times[k] * c);
            }
        }
        SungWords x = Checks.with("m4;c4 d4", "a b c");
        x.lay(0);
        for (int k = -1; k <= 5; k++) {
            for (int c : new int[] {Integer.MIN_VALUE, -1000, -2, -1, 1001, 1002, Integer.MAX_VALUE}) {
                Checks.same("price(" + k + ", " + c + ")", x.price(k, c), false);
            }
        }
        for (int k : new int[] {Integer.MIN_VALUE, -2, -1, 5, 6, Integer.MAX_VALUE}) {
            for (int c : new int[] {0, 1, 1000}) {
                Checks.same("price(" + k + ", " + c + ")", x.price(k, c), false);
            }
        }
        Checks.same("still laid", x.count(4), 1);
        Checks.same("the costs as at first", x.lay(0), 3 + 1 + 1 + 6);
        SungWords dear = Checks.with("m4;" + "c16 ".repeat(60), "a ".repeat(80));
        dear.price(1, 1000);
        dear.price(4, 1000);
        Checks.same("the dearest of 80", dear.lay(0), 80 * 3000 + 20 * 1000);
    }

    private static void priceTakesLayings() {
        Checks.sentence("no VERSE is LAID then");
        SungWords x = Checks.with("m4;c4", "a", "b", "c", "d");
        for (int k = 0; k < 5; k++) {
            for (int v = 0; v < 4; v++) {
                x.lay(v);
            }
            Checks.same("laid", x.count(4), 4);
            Checks.same("price", x.price(k, k == 0 ? 4 : 7), true);
            Checks.same("laid no more", x.count(4), 0);
        }
    }

    private static void pins() {
        Checks.sentence("SYLLABLE k of VERSE v is PINNED to a NOTE (in the place of another one), or to none (NONE)");
        SungWords x = Checks.with("m4;c4 d4,e4", "a b c/d", "e f/g");
        Checks.same("none already", x.pin(0, 0, -1), false);
        for (int k : new int[] {0, 3}) {
            for (int note : new int[] {0, 2}) {
                Checks.same("pin(0, " + k + ", " + note + ")", x.pin(0, k, note), true);
                Checks.same("it tells", x.syllable(0, k, 4), note);
                Checks.same("so already", x.pin(0, k, note), false);
            }
            Checks.same("in the place of another", x.pin(0, k, 1), true);
            Checks.same("it tells", x.syllable(0, k, 4), 1);
            Checks.same("to none", x.pin(0, k, -1), true);
            Checks.same("it tells", x.syllable(0, k, 4), -1);
            Checks.same("so already", x.pin(0, k, -1), false);
        }
        Checks.sentence("false, and nothing is changed: no such SYLLABLE, no such NOTE, or it is so already.");
        x.pin(0, 3, 2);
        x.lay(0);
        for (int k : new int[] {Integer.MIN_VALUE, -1, 4, 80, Integer.MAX_VALUE}) {
            Checks.same("pin(0, " + k + ", 0)", x.pin(0, k, 0), false);
            Checks.same("pin(0, " + k + ", -1)", x.pin(0, k, -1), false);
        }
        for (int note : new int[] {Integer.MIN_VALUE, -2, 3, 60, Integer.MAX_VALUE}) {
            Checks.same("pin(0, 3, " + note + ")", x.pin(0, 3, note), false);
        }
        Checks.same("pin stays", x.syllable(0, 3, 4), 2);
        Checks.same("laying stays", x.count(4), 1);
        Checks.same("a shorter verse", x.pin(1, 3, 0), false);
        Checks.same("a verse without syllables", x.pin(2, 0, 0), false);
        SungWords bare = new SungWords();
        Checks.verse(bare, 0, "a");
        Checks.same("no tune", bare.pin(0, 0, 0), false);
        Checks.same("no tune, none already", bare.pin(0, 0, -1), false);
        SungWords full = Checks.with("m4;" + "c1 ".repeat(60), "a ".repeat(80));
        Checks.same("the last to the last", full.pin(0, 79, 59), true);
        Checks.same("one note behind", full.pin(0, 79, 60), false);
        Checks.same("one syllable behind", full.pin(0, 80, 59), false);
    }

    private static void pinTakesItsLaying() {
        Checks.sentence("v is not LAID then: true");
        for (int note = -1; note <= 1; note++) {
            SungWords x = Checks.with("m4;c4 d4", "a b", "c d");
            x.pin(0, 1, note == 1 ? 0 : 1);
            x.lay(0);
            x.lay(1);
            Checks.same("pin", x.pin(0, 1, note), true);
            Checks.same("not laid", x.lies(0, 0), -1);
            Checks.same("the other one is", x.lies(1, 0), 0);
            Checks.same("laid", x.count(4), 1);
        }
    }

    private static void layings() {
        Checks.sentence("VERSE v is LAID: its COST; NONE, and it is not LAID: no TUNE, no SYLLABLES, not as many LINES as PHRASES, "
                + "or there is no LAYING.");
        SungWords x = new SungWords();
        Checks.same("no tune, no syllables", x.lay(0), -1);
        Checks.verse(x, 0, "a");
        Checks.same("no tune", x.lay(0), -1);
        Checks.tune(x, "m4;c4");
        Checks.same("no syllables", x.lay(1), -1);
        Checks.same("a tune and syllables", x.lay(0), 3);
        Checks.same("laid", x.count(4), 1);
        Checks.same("again", x.lay(0), 3);
        Checks.same("laid", x.count(4), 1);
        Checks.verse(x, 1, "a/b");
        Checks.same("more lines", x.lay(1), -1);
        Checks.verse(x, 2, "a b c");
        Checks.same("no laying", x.lay(2), -1);
        Checks.same("the laid one stays", x.count(4), 1);
        Checks.tune(x, "m4;c4,d4");
        Checks.same("fewer lines", x.lay(0), -1);
        Checks.same("as many lines", x.lay(1), 4);
        for (int v : new int[] {0, 2, 3}) {
            Checks.same("row of " + v, x.row(v), -1);
            Checks.same("begins of " + v, x.begins(v, 0), -1);
            Checks.same("lies of " + v, x.lies(v, 0), -1);
            Checks.noSuchElement("cost of " + v, () -> x.cost(v, 0));
        }
    }

    private static void costsOfPhrases() {
        Checks.sentence("COST of a PHRASE in the LAYING of VERSE v. "
                + "NoSuchElementException: it is not LAID, or there is no such PHRASE.");
        SungWords x = Checks.with("m4;c16,d16 e16,f16", "'a/'b/'c 'd", "a/b/c d");
        Checks.noSuchElement("ahead of lay", () -> x.cost(0, 0));
        Checks.same("lay", x.lay(0), 9);
        Checks.same("the first", x.cost(0, 0), 0);
        Checks.same("the second", x.cost(0, 1), 3);
        Checks.same("the last", x.cost(0, 2), 6);
        for (int p : new int[] {-1, 3, 11, 12, FAR[0], FAR[1]}) {
            Checks.noSuchElement("cost(0, " + p + ")", () -> x.cost(0, p));
        }
        Checks.noSuchElement("another one that is not laid", () -> x.cost(1, 0));
        x.pin(0, 0, 0);
        Checks.noSuchElement("laid no more", () -> x.cost(0, 0));
        x.lay(0);
        Checks.verse(x, 0, "1");
        Checks.same("behind a faulty verse", x.cost(0, 2), 6);
        Checks.outOfBounds("cost(4, 9)", () -> x.cost(4, 9));
    }

    private static void waysOfLines() {
        Checks.sentence("0 without one; NONE: no TUNE, another number of LINES, no such LINE.");
        SungWords x = new SungWords();
        Checks.same("no tune, no syllables", x.ways(0, 0, false), -1);
        Checks.verse(x, 0, "a b/c");
        Checks.same("no tune", x.ways(0, 0, true), -1);
        Checks.tune(x, "m4;c4 d4,e4");
        Checks.same("line 0", x.ways(0, 0, false), 2);
        Checks.same("line 0, best", x.ways(0, 0, true), 1);
        Checks.same("line 1", x.ways(0, 1, false), 1);
        for (int line : new int[] {-1, 2, 3, 12, FAR[0], FAR[1]}) {
            Checks.same("ways(0, " + line + ", false)", x.ways(0, line, false), -1);
            Checks.same("ways(0, " + line + ", true)", x.ways(0, line, true), -1);
        }
        Checks.same("no syllables", x.ways(1, 0, false), -1);
        Checks.verse(x, 1, "a");
        Checks.same("fewer lines", x.ways(1, 0, false), -1);
        Checks.verse(x, 1, "a/b/c");
        Checks.same("more lines", x.ways(1, 0, false), -1);
        Checks.verse(x, 1, "a b/c d e");
        Checks.same("without one", x.ways(1, 1, false), 0);
        Checks.same("without one, best", x.ways(1, 1, true), 0);
        Checks.same("the other line", x.ways(1, 0, false), 2);
        Checks.sentence("How many ways there are to lay LINE line of VERSE v to its PHRASE (PINS kept; all false), "
                + "or how many of these have the least COST (best): 0 without one");
        x.pin(0, 1, 0);
        Checks.same("pinned", x.ways(0, 0, false), 1);
        Checks.same("best of the pinned", x.ways(0, 0, true), 1);
        x.pin(0, 1, 2);
        Checks.same("pinned elsewhere", x.ways(0, 0, false), 0);
        Checks.same("best of none", x.ways(0, 0, true), 0);
        Checks.same("no laying", x.lay(0), -1);
        Checks.same("ways do not lay", x.count(4), 0);
    }

    /** So many notes, of which so many at the front stand behind rests. */
    private static String rested(int notes, int rests) {
        return "m4;c1 " + "r1 c1 ".repeat(rests) + "c1 ".repeat(notes - rests - 1);
    }

    private static void waysUpToMany() {
        Checks.sentence("(10^15, if there are so many or more.)");
        SungWords below = withoutPrices(rested(42, 6), "a ".repeat(28), "a ".repeat(63));
        SungWords above = withoutPrices(rested(41, 7), "a ".repeat(30), "a ".repeat(60));
        for (int v = 0; v < 2; v++) {
            for (boolean best : new boolean[] {false, true}) {
                Checks.same("a little below", below.ways(v, 0, best), 992497496191316L);
                Checks.same("a little above", above.ways(v, 0, best), 1000000000000000L);
            }
        }
        SungWords most = withoutPrices("m4;" + "c1 ".repeat(60), "a ".repeat(60));
        Checks.same("far above", most.ways(0, 0, false), 1000000000000000L);
        Checks.same("far above, best", most.ways(0, 0, true), 1000000000000000L);
        most.price(4, 1);
        Checks.same("far above, of which one is best", most.ways(0, 0, true), 1);
        Checks.same("all of them still", most.ways(0, 0, false), 1000000000000000L);
        for (int k = 1; k < 60; k++) {
            most.pin(0, k, k);
        }
        Checks.same("pinned to one way", most.ways(0, 0, false), 1);
    }

    private static void beginsOnNotes() {
        Checks.sentence("How many SYLLABLES of VERSE v BEGIN on a NOTE; NONE: it is not LAID, or no such NOTE.");
        SungWords x = Checks.with("m4;c16 d16,e16", "'a/'b 'c", "'a/'b");
        Checks.same("ahead of lay", x.begins(0, 0), -1);
        x.lay(0);
        int[] due = {1, 0, 2};
        for (int n = 0; n < 3; n++) {
            Checks.same("begins(0, " + n + ")", x.begins(0, n), due[n]);
            Checks.same("of another", x.begins(1, n), -1);
        }
        for (int n : new int[] {-1, 3, 59, 60, FAR[0], FAR[1]}) {
            Checks.same("begins(0, " + n + ")", x.begins(0, n), -1);
        }
        x.price(0, 4);
        Checks.same("laid no more", x.begins(0, 0), -1);
    }

    private static void liesOfSyllables() {
        Checks.sentence("On which NOTE SYLLABLE k of VERSE v BEGINS; NONE: it is not LAID, or no such one.");
        SungWords x = Checks.with("m4;c16 d16,e16", "'a/'b 'c", "'a/'b");
        Checks.same("ahead of lay", x.lies(0, 0), -1);
        x.lay(0);
        int[] due = {0, 2, 2};
        for (int k = 0; k < 3; k++) {
            Checks.same("lies(0, " + k + ")", x.lies(0, k), due[k]);
            Checks.same("of another", x.lies(1, k), -1);
        }
        for (int k : new int[] {-1, 3, 79, 80, FAR[0], FAR[1]}) {
            Checks.same("lies(0, " + k + ")", x.lies(0, k), -1);
        }
        x.lay(1);
        Checks.same("a shorter verse's last", x.lies(1, 1), 2);
        Checks.same("behind it", x.lies(1, 2), -1);
        x.pin(0, 0, 0);
        Checks.same("laid no more", x.lies(0, 0), -1);
    }

    private static void alikePhrases() {
        Checks.sentence("Whether PHRASE p is LAID alike in two VERSES: on each NOTE as many BEGIN; false also if one is not LAID, or there is no such PHRASE.");
        SungWords x = Checks.with("m4;c16 d16,e16 f16,g16", "'a/'b 'c/'d", "'a/'b/'c 'd", "'a/'b 'c/'d");
        Checks.same("none is laid", x.alike(0, 2, 0), false);
        Checks.same("not with itself", x.alike(0, 0, 0), false);
        x.lay(0);
        Checks.same("one is laid", x.alike(0, 2, 0), false);
        Checks.same("the other one is", x.alike(2, 0, 0), false);
        Checks.same("with itself", x.alike(0, 0, 0), true);
        x.lay(1);
        x.lay(2);
        boolean[] due = {true, false, false};
        for (int p = 0; p < 3; p++) {
            Checks.same("alike(0, 1, " + p + ")", x.alike(0, 1, p), due[p]);
            Checks.same("alike(1, 0, " + p + ")", x.alike(1, 0, p), due[p]);
            Checks.same("alike(0, 2, " + p + ")", x.alike(0, 2, p), true);
        }
        for (int p : new int[] {-1, 3, 11, 12, FAR[0], FAR[1]}) {
            Checks.same("alike(0, 2, " + p + ")", x.alike(0, 2, p), false);
            Checks.same("alike(0, 0, " + p + ")", x.alike(0, 0, p), false);
        }
        Checks.same("one without syllables", x.alike(0, 3, 0), false);
        for (int v : new int[] {-1, 4, FAR[0], FAR[1]}) {
            Checks.outOfBounds("alike(" + v + ", 0, 0)", () -> x.alike(v, 0, 0));
            Checks.outOfBounds("alike(0, " + v + ", 0)", () -> x.alike(0, v, 0));
            Checks.outOfBounds("alike(3, " + v + ", 9)", () -> x.alike(3, v, 9));
        }
        onlyOneNoteIsOther();
    }

    private static void onlyOneNoteIsOther() {
        SungWords x = Checks.with("m4;c16 d16 e16,f16 g16", "'a 'b/'c 'd", "'a 'b/'c 'd");
        x.pin(0, 1, 2);
        x.pin(1, 1, 2);
        x.lay(0);
        x.lay(1);
        Checks.same("alike", x.alike(0, 1, 0), true);
        x.pin(1, 1, 1);
        x.lay(1);
        Checks.same("the last two are other", x.alike(0, 1, 0), false);
        x.pin(1, 1, 0);
        x.lay(1);
        Checks.same("the first and the last are other", x.alike(0, 1, 0), false);
        Checks.same("the next phrase is alike", x.alike(0, 1, 1), true);
    }
}
