/** Promises 18 to 21: columns, rows, OUT, counts. */
public final class RowTest {
    public static void main(String[] args) {
        columnsWithoutWords();
        columnsOfOneVerse();
        columnsOfAllLaid();
        joined();
        hyphens();
        lines();
        outStays();
        counts();
        Checks.finish();
    }

    private static SungWords laid(String tune, String... verses) {
        SungWords x = Checks.with(tune, verses);
        for (int v = 0; v < verses.length; v++) {
            Checks.same("laid <" + verses[v] + ">", x.lay(v) >= 0, true);
        }
        return x;
    }

    private static void columnsWithoutWords() {
        SungWords x = Checks.with("m4;c4 d4 e4,f4", "abcdefg hijk l/m");
        Checks.same("three apart", Checks.columns(x), "0 3 6 9");
        for (int k : new int[] {-1, 4, 60, Integer.MIN_VALUE, Integer.MAX_VALUE}) {
            Checks.noSuchElement("column(" + k + ")", () -> x.column(k));
        }
    }

    private static void columnsOfOneVerse() {
        SungWords x = laid("m4;c16 d16 e16,f16", "'abcd-'ef 'g/'h");
        // A word's next syllable stands 2 behind the end, another word's 1; and 3 columns are the least.
        Checks.same("columns", Checks.columns(x), "0 6 9 12");
        Checks.same("row", Checks.row(x, 0), "abcd -ef g  h");
        SungWords y = laid("m4;c16 d16", "'ab-'c");
        Checks.same("2 letters of one word", Checks.columns(y), "0 4");
        Checks.same("row", Checks.row(y, 0), "ab -c");
        SungWords z = laid("m4;c16 d16", "'ab 'c");
        Checks.same("2 letters of two words", Checks.columns(z), "0 3");
        Checks.same("row", Checks.row(z, 0), "ab c");
    }

    private static void columnsOfAllLaid() {
        SungWords x = Checks.with("m4;c16 d16 e16", "'abcdef 'g 'h", "'a 'bcdefgh 'i", "'abcdefghij 'abcdefghij 'a");
        x.lay(0);
        Checks.same("of one", Checks.columns(x), "0 7 10");
        x.lay(1);
        Checks.same("of two", Checks.columns(x), "0 7 15");
        Checks.same("row of the first", Checks.row(x, 0), "abcdef g       h");
        Checks.same("row of the second", Checks.row(x, 1), "a      bcdefgh i");
        x.lay(2);
        Checks.same("of three", Checks.columns(x), "0 11 22");
        x.pin(2, 0, 0);
        Checks.same("of two again", Checks.columns(x), "0 7 15");
        Checks.same("row of one that is not laid", x.row(2), -1);
    }

    private static void joined() {
        SungWords x = laid("m4;c16", "'ab 'cd");
        Checks.same("two words on a note", Checks.row(x, 0), "ab_cd");
        SungWords y = laid("m4;c16 d16", "'ab-'cd-'ef 'gh");
        Checks.same("a word's two on a note", Checks.begins(y, 0), "22");
        Checks.same("columns", Checks.columns(y), "0 7");
        Checks.same("row", Checks.row(y, 0), "ab_cd -ef_gh");
        SungWords z = Checks.with("m4;c16 d16 e16", "'ab 'cd 'ef");
        z.pin(0, 1, 0);
        z.pin(0, 2, 2);
        z.lay(0);
        Checks.same("the second one is held", Checks.row(z, 0), "ab_cd ef");
        Checks.same("columns", Checks.columns(z), "0 3 6");
    }

    /** A word's two syllables on the first and the last of so many notes. */
    private static String spread(int notes, String verse) {
        SungWords x = Checks.with("m4;" + "c16 ".repeat(notes), verse);
        x.pin(0, 1, notes - 1);
        x.lay(0);
        return Checks.row(x, 0);
    }

    private static void hyphens() {
        Checks.same("2 places", spread(2, "'a-'b"), "a -b");
        Checks.same("5 places", spread(3, "'a-'b"), "a  -  b");
        Checks.same("9 places", spread(5, "'abc-'b"), "abc    -    b");
        Checks.same("10 places", spread(5, "'ab-'b"), "ab     -    b");
        Checks.same("11 places", spread(5, "'a-'b"), "a  -     -  b");
        Checks.same("20 places", spread(8, "'a-'b"), "a     -         -    b");
        Checks.same("21 places", spread(9, "'abc-'b"), "abc   -      -      -   b");
    }

    private static void lines() {
        SungWords x = laid("m4;c16 (d4 e4 f4)", "'a 'bc");
        Checks.same("columns", Checks.columns(x), "0 3 6 9");
        Checks.same("held over a slur", Checks.row(x, 0), "a  bc ____");
        SungWords y = laid("m4;(c8 d8) e16", "'a 'b");
        Checks.same("held ahead of another", Checks.row(y, 0), "a __  b");
        SungWords z = laid("m4;(c8 d8) e16", "'abcdef 'b");
        Checks.same("no room for a line", Checks.row(z, 0), "abcdef b");
        SungWords last = laid("m4;(c8 d8)", "'abcdef");
        Checks.same("no line behind the last", Checks.row(last, 0), "abcdef");
        SungWords edge = laid("m4;(c8 d8)", "'ab");
        Checks.same("a line of one", Checks.row(edge, 0), "ab _");
        SungWords none = laid("m4;(c8 d8)", "'abc");
        Checks.same("the column right at the end", Checks.row(none, 0), "abc");
        SungWords inWord = laid("m4;(c8 d8) e16", "'a-'b");
        Checks.same("held within a word", Checks.row(inWord, 0), "a  -  b");
        SungWords joined = Checks.with("m4;(c8 d8 e8),f16", "'a 'b/'c");
        joined.pin(0, 1, 0);
        joined.lay(0);
        Checks.same("the second of two is held", Checks.row(joined, 0), "a_b ___  c");
        SungWords acrossVerses = Checks.with("m4;(c8 d8) e16", "'a 'b", "'abcdefgh 'abcd");
        acrossVerses.lay(0);
        acrossVerses.lay(1);
        Checks.same("another verse's room", Checks.columns(acrossVerses), "0 3 9");
        Checks.same("the line ends at its note", Checks.row(acrossVerses, 0), "a __     b");
    }

    private static void outStays() {
        SungWords x = laid("m4;c16 d16", "'o 'my", "'long-'er");
        Checks.same("row", x.row(1), 8);
        Checks.same("OUT", Checks.out(x), "long -er");
        Checks.verse(x, 1, "a");
        Checks.same("row of none", x.row(1), -1);
        Checks.same("row of no verse", x.row(3), -1);
        Checks.outOfBounds("row(4)", () -> x.row(4));
        Checks.tune(x, "m4;c4");
        Checks.same("OUT stays", Checks.out(x), "long -er");
        for (int k : new int[] {-1, 8, 1380, 5000, Integer.MIN_VALUE, Integer.MAX_VALUE}) {
            Checks.noSuchElement("octet(" + k + ")", () -> x.octet(k));
        }
        Checks.same("octet(0)", x.octet(0), 'l');
        Checks.same("octet(4)", x.octet(4), ' ');
        Checks.same("octet(5)", x.octet(5), '-');
        Checks.verse(x, 0, "i");
        x.lay(0);
        Checks.same("a shorter row", Checks.row(x, 0), "i");
        Checks.noSuchElement("octet behind it", () -> x.octet(1));
    }

    private static void counts() {
        SungWords x = laid("m5;r2 c4 d4,e4 r32", "'a 'b/'c", "'d/'e");
        Checks.feed(x, "abc");
        x.row(0);
        int[] due = {3, 2, 5, 2, 2, 3, x.row(0), 46, -1};
        for (int what = 0; what < due.length; what++) {
            Checks.same("count(" + what + ")", x.count(what), due[what]);
        }
        x.pin(0, 0, 0);
        Checks.same("one is not laid", x.count(4), 1);
        Checks.same("count(-1)", x.count(-1), -1);
    }
}
