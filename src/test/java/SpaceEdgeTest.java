/** Each sentence of the document's part 4 and of promises 18 to 20 that names an edge: at it, below it, above it. */
public final class SpaceEdgeTest {
    private static final String LETTERS = "abcdefghij";
    private static final int[] FAR = {Integer.MIN_VALUE, Integer.MAX_VALUE};

    public static void main(String[] args) {
        threeApart();
        behindAnEnd();
        twoOfOneNote();
        heldBetween();
        leastForAllLaid();
        columnsThatAreNot();
        hyphens();
        hyphensAsWritten();
        lines();
        linesBetweenWords();
        rowsEnd();
        rowsOfVerses();
        octets();
        widestRows();
        Checks.finish();
    }

    private static String word(int letters) {
        return LETTERS.substring(0, letters);
    }

    /** The tune of so many notes on each of which a bar begins. */
    private static String tune(int notes) {
        return "m4;" + "c16 ".repeat(notes);
    }

    private static SungWords laid(String tune, String... verses) {
        SungWords x = Checks.with(tune, verses);
        for (int v = 0; v < verses.length; v++) {
            Checks.same("laid <" + verses[v] + ">", x.lay(v) >= 0, true);
        }
        return x;
    }

    private static void threeApart() {
        Checks.sentence("each NOTE has a COLUMN; the first one 0, each other one at least 3 more than the one ahead.");
        SungWords x = Checks.with(tune(60), "a");
        for (int n = 0; n < 60; n++) {
            Checks.same("none laid", x.column(n), 3 * n);
        }
        x.lay(0);
        for (int n = 0; n < 60; n++) {
            Checks.same("one laid that needs no more", x.column(n), 3 * n);
        }
        Checks.same("one note", Checks.columns(laid("m4;c4", "abcdefghij abcdefghij")), "0");
    }

    private static void behindAnEnd() {
        Checks.sentence("its END is the place right behind its last letter.");
        Checks.sentence("The next one that BEGINS on another NOTE stands at its END and 1 at least, "
                + "at its END and 2 if both are of one WORD.");
        for (int letters = 1; letters <= 10; letters++) {
            SungWords words = laid(tune(2), "'" + word(letters) + " 'b");
            Checks.same("another word behind " + letters, words.column(1), letters < 2 ? 3 : letters + 1);
            SungWords oneWord = laid(tune(2), "'" + word(letters) + "-'b");
            Checks.same("the same word behind " + letters, oneWord.column(1), letters < 1 ? 3 : letters + 2);
            SungWords lines = laid("m4;c16,d16", "'" + word(letters) + "/'b");
            Checks.same("another line behind " + letters, lines.column(1), letters < 2 ? 3 : letters + 1);
        }
        // An apostrophe and the signs between syllables are no letters.
        Checks.same("row", Checks.row(laid(tune(3), "'ab-'cd 'ef"), 0), "ab -cd ef");
    }

    private static void twoOfOneNote() {
        Checks.sentence("A SYLLABLE is written from its NOTE's COLUMN on "
                + "(of two the second one from the first one's END and 1 on)");
        Checks.sentence("between two of one NOTE a _");
        for (int first = 1; first <= 10; first++) {
            for (int second = 1; second <= 10; second++) {
                twoAndTwo(word(first), "-", word(second), 2);
                twoAndTwo(word(first), " ", word(second), 1);
            }
        }
    }

    private static void twoAndTwo(String first, String between, String second, int room) {
        SungWords x = laid(tune(2), "'" + first + between + "'" + second + between + "'x" + between + "'y");
        Checks.same("two on each", Checks.begins(x, 0), "22");
        int end = first.length() + 1 + second.length();
        Checks.same("column", x.column(1), end + room);
        Checks.same("row", Checks.row(x, 0), first + "_" + second + (room == 2 ? " -" : " ") + "x_y");
    }

    /** Two syllables on the first and the last of so many notes. */
    private static SungWords spread(int notes, String verse) {
        SungWords x = Checks.with(tune(notes), verse);
        x.pin(0, 1, notes - 1);
        Checks.same("laid", x.lay(0) >= 0, true);
        return x;
    }

    private static void heldBetween() {
        Checks.sentence("stands at its END and 1 at least");
        for (int letters = 1; letters <= 10; letters++) {
            for (int notes = 3; notes <= 5; notes++) {
                int bare = 3 * (notes - 1);
                int words = spread(notes, word(letters) + " b").column(notes - 1);
                Checks.same(letters + " held to note " + notes, words, Math.max(bare, letters + 1));
                int oneWord = spread(notes, word(letters) + "-b").column(notes - 1);
                Checks.same(letters + " held in a word", oneWord, Math.max(bare, letters + 2));
            }
        }
        Checks.same("notes between keep 3", Checks.columns(spread(4, "abcdefghij-b")), "0 3 6 12");
    }

    private static void leastForAllLaid() {
        Checks.sentence("SPACING, of all VERSES that are LAID");
        Checks.sentence("COLUMNS are the least such, by rising NOTES.");
        SungWords x = Checks.with(tune(5), "'abcd 'a 'a 'a 'a", "'a 'abcde 'a 'a 'a", "'a 'a 'abcdef 'a 'a",
                "'a 'a 'a 'abcdefg 'a");
        Checks.same("none", Checks.columns(x), "0 3 6 9 12");
        String[] due = {"0 5 8 11 14", "0 5 11 14 17", "0 5 11 18 21", "0 5 11 18 26"};
        for (int v = 0; v < 4; v++) {
            x.lay(v);
            Checks.same("up to verse " + v, Checks.columns(x), due[v]);
        }
        Checks.verse(x, 1, "a");
        Checks.same("without verse 1", Checks.columns(x), "0 5 8 15 23");
        x.price(0, 4);
        Checks.same("none again", Checks.columns(x), "0 3 6 9 12");
    }

    private static void columnsThatAreNot() {
        Checks.sentence("COLUMN of NOTE k. NoSuchElementException: there is none such.");
        SungWords x = laid(tune(3), "'a 'b 'c");
        Checks.same("the first", x.column(0), 0);
        Checks.same("the last", x.column(2), 6);
        for (int k : new int[] {-1, 3, 59, 60, FAR[0], FAR[1]}) {
            Checks.noSuchElement("column(" + k + ")", () -> x.column(k));
        }
        Checks.noSuchElement("without a tune", () -> new SungWords().column(0));
        Checks.tune(x, "m4;c4");
        Checks.same("a new tune", x.column(0), 0);
        Checks.noSuchElement("of the longer one ahead", () -> x.column(1));
    }

    /** The row of two syllables of a word, so many letters and a b, with so many places between them. */
    private static String withHyphens(int letters, int places) {
        char[] row = (word(letters) + " ".repeat(places) + "b").toCharArray();
        int hyphens = 1 + (places - 1) / 10;
        for (int j = 0; j < hyphens; j++) {
            row[letters + places * (2 * j + 1) / (2 * hyphens)] = '-';
        }
        return new String(row);
    }

    private static void hyphens() {
        Checks.sentence("between two of one WORD, on other NOTES, with G places between them (from the END on), "
                + "H = 1 + (G - 1) / 10 (cut) hyphens: number j (from 0 on) at place G (2 j + 1) / (2 H) (cut) of these");
        for (int notes = 3; notes <= 60; notes++) {
            for (int letters = 1; letters <= 3; letters++) {
                SungWords x = spread(notes, word(letters) + "-b");
                int places = 3 * (notes - 1) - letters;
                Checks.same(places + " places", Checks.row(x, 0), withHyphens(letters, places));
            }
        }
    }

    private static void hyphensAsWritten() {
        Checks.sentence("H = 1 + (G - 1) / 10 (cut) hyphens");
        Checks.same("2", Checks.row(spread(2, "a-b"), 0), "a -b");
        Checks.same("2 behind 10 letters", Checks.row(spread(2, "abcdefghij-b"), 0), "abcdefghij -b");
        Checks.same("3", Checks.row(spread(3, "abc-b"), 0), "abc - b");
        Checks.same("4", Checks.row(spread(3, "ab-b"), 0), "ab  - b");
        Checks.same("9", Checks.row(spread(5, "abc-b"), 0), "abc    -    b");
        Checks.same("10", Checks.row(spread(5, "ab-b"), 0), "ab     -    b");
        Checks.same("11", Checks.row(spread(5, "a-b"), 0), "a  -     -  b");
        Checks.same("12", Checks.row(spread(6, "abc-b"), 0), "abc   -     -  b");
        Checks.same("20", Checks.row(spread(8, "a-b"), 0), "a     -         -    b");
        Checks.same("21", Checks.row(spread(9, "abc-b"), 0), "abc   -      -      -   b");
    }

    private static void lines() {
        Checks.sentence("of a SYLLABLE that ends its WORD and is HELD, a _ at each place from its END and 1 "
                + "up to the COLUMN of the last NOTE on which it is HELD.");
        for (int letters = 1; letters <= 10; letters++) {
            for (int notes = 1; notes <= 5; notes++) {
                int column = 3 * (notes - 1);
                int held = Math.max(0, column - letters);
                String due = word(letters) + (held > 0 ? " " + "_".repeat(held) : "");
                Checks.same(letters + " held on " + notes, Checks.row(laid(tune(notes), "'" + word(letters)), 0), due);
            }
        }
    }

    private static void linesBetweenWords() {
        Checks.sentence("Where none begins the latest one is HELD.");
        Checks.same("one place", Checks.row(spread(3, "ab c"), 0), "ab _  c");
        Checks.same("two places", Checks.row(spread(3, "a c"), 0), "a __  c");
        Checks.same("no place", Checks.row(spread(3, "abc d"), 0), "abc   d");
        Checks.same("held in a word", Checks.row(spread(3, "a-c"), 0), "a  -  c");
        Checks.same("not held", Checks.row(spread(2, "a c"), 0), "a  c");
        SungWords x = Checks.with(tune(4), "ab-c d");
        x.pin(0, 1, 1);
        x.pin(0, 2, 3);
        x.lay(0);
        Checks.same("the word's last is held", Checks.row(x, 0), "ab -c __  d");
        SungWords two = Checks.with(tune(3), "a b c");
        two.pin(0, 1, 0);
        two.pin(0, 2, 2);
        two.lay(0);
        Checks.same("the second of two is held, without room", Checks.row(two, 0), "a_b   c");
        SungWords overLine = laid("m4;c16 (d16 e16),f16", "'a 'b/'c");
        Checks.same("held to a line's end", Checks.row(overLine, 0), "a  b __  c");
    }

    private static void rowsEnd() {
        Checks.sentence("All else blanks, up to the last of these.");
        SungWords x = laid(tune(3), "'a 'b 'c", "'abcdefghij 'abcdefghij 'abcdefghij", "'a", "'abcdefghij");
        Checks.same("up to the last letter", Checks.row(x, 0), "a          b          c");
        Checks.same("up to the last of ten", Checks.row(x, 1), "abcdefghij abcdefghij abcdefghij");
        Checks.same("up to the last line's", Checks.row(x, 2), "a " + "_".repeat(21));
        Checks.same("a line that another verse made room for", Checks.row(x, 3), "abcdefghij " + "_".repeat(12));
        SungWords y = laid("m4;c16 (d16 e16)", "'a 'bcdefg");
        Checks.same("held without a line", Checks.row(y, 0), "a  bcdefg");
    }

    private static void rowsOfVerses() {
        Checks.sentence("The ROW of a VERSE: its SYLLABLES");
        Checks.sentence("OUT is the ROW of VERSE v: how many bytes; NONE (OUT stays): it is not LAID.");
        SungWords x = laid(tune(2), "'a 'b", "'cd 'ef", "'ghi 'jkl", "'m");
        String[] due = {"a   b", "cd  ef", "ghi jkl", "m ___"};
        for (int v = 0; v < 4; v++) {
            Checks.same("bytes", x.row(v), due[v].length());
            Checks.same("row " + v, Checks.out(x), due[v]);
        }
        for (int v : new int[] {-1, 4, FAR[0], FAR[1]}) {
            Checks.outOfBounds("row(" + v + ")", () -> x.row(v));
        }
        x.pin(0, 0, 0);
        Checks.same("not laid", x.row(0), -1);
        Checks.same("OUT stays", Checks.out(x), "m ___");
        x.price(0, 0);
        Checks.same("not laid", x.row(3), -1);
        Checks.same("OUT stays", Checks.out(x), "m ___");
        Checks.same("without a tune", new SungWords().row(0), -1);
    }

    private static void octets() {
        Checks.sentence("Byte k of OUT. NoSuchElementException: there is none such.");
        SungWords x = laid(tune(2), "'a-'z", "'q");
        Checks.noSuchElement("of an empty OUT", () -> x.octet(0));
        Checks.same("row", x.row(0), 4);
        int[] due = {'a', ' ', '-', 'z'};
        for (int k = 0; k < 4; k++) {
            Checks.same("octet(" + k + ")", x.octet(k), due[k]);
        }
        for (int k : new int[] {-1, 4, 1379, 1380, 1381, FAR[0], FAR[1]}) {
            Checks.noSuchElement("octet(" + k + ")", () -> x.octet(k));
        }
        Checks.tune(x, "m4;c4");
        x.lay(1);
        Checks.same("OUT stays up to the next row", x.octet(3), 'z');
        Checks.same("a shorter row", x.row(1), 1);
        Checks.same("its byte", x.octet(0), 'q');
        Checks.noSuchElement("behind it", () -> x.octet(1));
    }

    private static void widestRows() {
        Checks.sentence("up to the last of these");
        String ten = "abcdefghij";
        String pair = ten + "_" + ten;
        // Ahead of verse 3's notes, each of which begins 23 behind the one ahead, its first syllable has hyphens.
        StringBuilder due = new StringBuilder(withHyphens(1, 45 * 23 - 1).substring(0, 45 * 23)).append(pair);
        for (int n = 46; n < 60; n++) {
            due.append(" -").append(pair);
        }
        Checks.same("its bytes", due.length(), 59 * 23 + 21);
        // An object has 512 calls, which are not enough to read such a row in one.
        for (int from = 0; from < due.length(); from += 200) {
            SungWords x = widest();
            Checks.same("the widest row", x.row(3), due.length());
            for (int k = from; k < Math.min(from + 200, due.length()); k++) {
                Checks.same("octet(" + k + ")", x.octet(k), due.charAt(k));
            }
            Checks.noSuchElement("behind it", () -> x.octet(due.length()));
        }
        SungWords x = widest();
        Checks.same("the last column", x.column(59), 59 * 23);
        Checks.same("a line up to the last column", x.row(2), 59 * 23 + 1);
        Checks.same("the line's last byte", x.octet(59 * 23), '_');
        Checks.same("the widest one again", x.row(3), due.length());
    }

    /** Four verses share out the notes, with two syllables of ten letters on each: no row can be wider. */
    private static SungWords widest() {
        String tens = "-abcdefghij".repeat(30);
        SungWords x = Checks.with(tune(60), "abcdefghij" + tens, "a" + tens + "-z", "a" + tens + "-z", "a" + tens);
        for (int k = 1; k <= 30; k++) {
            x.pin(0, k, k / 2);
        }
        for (int v = 1; v < 4; v++) {
            for (int k = 1; k <= 30; k++) {
                x.pin(v, k, 15 * v + (k - 1) / 2);
            }
        }
        x.pin(1, 31, 30);
        x.pin(2, 31, 45);
        for (int v = 0; v < 4; v++) {
            Checks.same("laid", x.lay(v) >= 0, true);
        }
        return x;
    }
}
