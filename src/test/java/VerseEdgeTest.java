/** Each sentence of the document's part 2 and of promises 5, 6 and 8 that names an edge: at it, below it, above it. */
public final class VerseEdgeTest {
    private static final String EIGHTY = "a ".repeat(80);
    private static final String TWELVE = "a" + "/a".repeat(11);
    private static final String SIXTY_ONE_NOTES = "m4;" + "c1 ".repeat(61);

    public static void main(String[] args) {
        verseNumbers();
        mostBytes();
        whereEachByteMayCome();
        linesAndWords();
        stresses();
        lettersOfASyllable();
        blanksAndSlashes();
        mostSyllables();
        mostLines();
        firstFault();
        faultsAtTheEnd();
        faultsAround400();
        aVerseTakesItsOwnPinsAndLaying();
        kindOfTheLatest();
        whatASyllableTells();
        Checks.finish();
    }

    private static void good(String text, int syllables) {
        Checks.goodVerse(text, syllables);
    }

    private static void fault(String text, int place, int kind) {
        Checks.verseFault(text, place, kind);
    }

    private static String stretched(String head, String last, int bytes) {
        return head + " ".repeat(bytes - head.length() - last.length()) + last;
    }

    private static void verseNumbers() {
        Checks.sentence("VERSES 0 .. 3 are texts of at most 400 bytes");
        Checks.sentence("IndexOutOfBoundsException: v is not 0 to 3 (here and below; the tape stays).");
        SungWords x = new SungWords();
        for (int v = 0; v <= 3; v++) {
            Checks.same("verse " + v, Checks.verse(x, v, "la".repeat(v + 1)), 1);
            Checks.same("verses", x.count(3), v + 1);
        }
        for (int v = 0; v <= 3; v++) {
            Checks.same("each has its own", x.syllable(v, 0, 0), 2 * v + 2);
        }
        Checks.feed(x, "some more");
        for (int v : new int[] {-1, 4, 5, Integer.MIN_VALUE, Integer.MAX_VALUE}) {
            Checks.outOfBounds("verse(" + v + ")", () -> x.verse(v));
            Checks.same("the tape stays", x.count(5), 9);
        }
        Checks.same("and what it has", x.verse(3), 2);
        Checks.same("its second word", x.syllable(3, 1, 0), 4);
    }

    private static void mostBytes() {
        Checks.sentence("texts of at most 400 bytes");
        for (int bytes : new int[] {3, 398, 399, 400}) {
            good(stretched("a", "b", bytes), 2);
            good(stretched("a", "", bytes), 1);
        }
        for (int bytes : new int[] {401, 402, 420, 439, 440}) {
            fault(stretched("a", "b", bytes), 400, 1);
            fault(stretched("a", "", bytes), 400, 1);
        }
        SungWords x = new SungWords();
        Checks.feed(x, stretched("a", "b", 401));
        x.end(400);
        Checks.same("400 of 401 bytes", x.verse(0), 1);
        // The most letters there can be: none but what parts the syllables beside them.
        String full = "abcdefghij ".repeat(36) + "abcd";
        Checks.same("bytes", full.length(), 400);
        Checks.same("letters of the last", Checks.goodVerse(full, 37).syllable(2, 36, 0), 4);
        fault(full + "e", 400, 1);
    }

    private static boolean isLetter(int b) {
        return b >= 'a' && b <= 'z';
    }

    private static boolean isBlank(int b) {
        return b == 32 || b == 10;
    }

    /** The text with each byte there is behind it, and an x: good if the byte is one of these, a letter or a blank. */
    private static void behind(String text, int ahead, boolean letter, boolean blank, String others) {
        for (int b = 0; b < 256; b++) {
            boolean may = isLetter(b) && letter || isBlank(b) && blank || others.indexOf(b) >= 0;
            if (may) {
                // Behind a letter another one goes on with the same syllable.
                boolean goesOn = isLetter(b) && text.endsWith("a") || text.endsWith("'");
                good(text + (char) b + "x", ahead + (goesOn ? 0 : 1));
            } else {
                fault(text + (char) b + "x", text.length(), 1);
            }
        }
    }

    private static void whereEachByteMayCome() {
        Checks.sentence("FAULTS, the first: 1 a byte that can't come (at it");
        behind("", 0, true, true, "'");
        behind(" \n", 0, true, true, "'");
        behind("a", 1, true, true, "-/");
        behind("'", 1, true, false, "");
        behind("a-", 1, true, false, "'");
        behind("a-'", 2, true, false, "");
        behind("a ", 1, true, true, "'/");
        behind("a\n", 1, true, true, "'/");
        behind("a/", 1, true, true, "'");
        behind("a / ", 1, true, true, "'");
        behind("b-a", 2, true, true, "-/");
        behind("b/a", 2, true, true, "-/");
    }

    private static void linesAndWords() {
        Checks.sentence("LINES, parted by / ; LINE: WORD { WORD }; WORD: SYLLABLE { - SYLLABLE }");
        good("a", 1);
        fault("", 0, 1);
        fault("/", 0, 1);
        fault("/a", 0, 1);
        fault("a/", 2, 1);
        fault("a//a", 2, 1);
        fault("a/ \n/a", 4, 1);
        fault("-a", 0, 1);
        fault("a-", 2, 1);
        fault("a--a", 2, 1);
        fault("a-/a", 2, 1);
        fault("a/-a", 2, 1);
        SungWords x = Checks.goodVerse("a-b c/d-e-f/g", 7);
        int[] lines = {0, 0, 0, 1, 1, 1, 2};
        int[] words = {0, 0, 1, 2, 2, 2, 3};
        for (int k = 0; k < 7; k++) {
            Checks.same("line", x.syllable(2, k, 2), lines[k]);
            Checks.same("word", x.syllable(2, k, 3), words[k]);
        }
        Checks.same("the longest word", Checks.goodVerse("a" + "-a".repeat(79), 80).syllable(2, 79, 3), 0);
        Checks.same("the most words", Checks.goodVerse(EIGHTY, 80).syllable(2, 79, 3), 79);
    }

    private static void stresses() {
        Checks.sentence("SYLLABLE: perhaps ' (it is STRESSED), then 1 to 10 small letters, all without blanks between");
        Checks.same("none", Checks.goodVerse("a", 1).syllable(2, 0, 1), 0);
        Checks.same("one", Checks.goodVerse("'a", 1).syllable(2, 0, 1), 1);
        fault("''a", 1, 1);
        fault("'", 1, 1);
        fault("a'", 1, 1);
        fault("a'a", 1, 1);
        fault("' a", 1, 1);
        fault("'\na", 1, 1);
        fault("'-a", 1, 1);
        fault("'/a", 1, 1);
        fault("a- a", 2, 1);
        fault("a-\na", 2, 1);
        fault("a -a", 2, 1);
        SungWords x = Checks.goodVerse("a-'b 'c-d", 4);
        int[] due = {0, 1, 1, 0};
        for (int k = 0; k < 4; k++) {
            Checks.same("stressed " + k, x.syllable(2, k, 1), due[k]);
        }
    }

    private static void lettersOfASyllable() {
        Checks.sentence("then 1 to 10 small letters");
        Checks.sentence("2 an 11th letter (at it)");
        for (int letters = 1; letters <= 12; letters++) {
            String word = "abcdefghijkl".substring(0, letters);
            for (String ahead : new String[] {"", "'", "z-", "z-'", "z ", "z/"}) {
                if (letters <= 10) {
                    int syllables = ahead.startsWith("z") ? 2 : 1;
                    SungWords x = Checks.goodVerse(ahead + word, syllables);
                    Checks.same("letters", x.syllable(2, syllables - 1, 0), letters);
                } else {
                    fault(ahead + word, ahead.length() + 10, 2);
                }
            }
        }
        good("abcdefghij-k", 2);
        good("abcdefghij k", 2);
        good("abcdefghij/k", 2);
        for (int b = 0; b < 256; b++) {
            String text = "abcdefghij" + (char) b + "x";
            if (isLetter(b)) {
                fault(text, 10, 2);
            } else if (isBlank(b) || b == '-' || b == '/') {
                good(text, 2);
            } else {
                fault(text, 10, 1);
            }
        }
    }

    private static void blanksAndSlashes() {
        Checks.sentence("blanks (32, 10) part WORDS, and may stand around / .");
        Checks.same("one blank", Checks.goodVerse("a b", 2).syllable(2, 1, 3), 1);
        Checks.same("two blanks", Checks.goodVerse("a \nb", 2).syllable(2, 1, 3), 1);
        Checks.same("none", Checks.goodVerse("ab", 1).syllable(2, 0, 3), 0);
        for (String slash : new String[] {"/", " /", "/ ", "\n/\n", "  /  "}) {
            SungWords x = Checks.goodVerse("a" + slash + "b", 2);
            Checks.same("line", x.syllable(2, 1, 2), 1);
            Checks.same("word", x.syllable(2, 1, 3), 1);
        }
        good(" a", 1);
        good("a ", 1);
        good("\n a \n", 1);
    }

    private static void mostSyllables() {
        Checks.sentence("80 SYLLABLES, 12 LINES at most.");
        Checks.sentence("3 an 81st SYLLABLE (at its first byte), a 13th LINE (at the / ahead of it).");
        good("a ".repeat(79), 79);
        good(EIGHTY, 80);
        fault(EIGHTY + "b", 160, 3);
        fault(EIGHTY + "bcd e", 160, 3);
        fault(EIGHTY + "'b", 160, 3);
        fault(EIGHTY + "\n b", 162, 3);
        fault(EIGHTY + "/b", 161, 3);
        fault(EIGHTY + "/ 'b", 162, 3);
        fault(EIGHTY.trim() + "-b", 160, 3);
        fault(EIGHTY.trim() + "-'b", 160, 3);
        good("a" + "-a".repeat(79), 80);
        fault("a" + "-a".repeat(80), 160, 3);
        SungWords x = Checks.goodVerse(EIGHTY.trim() + "bcdefghij", 80);
        Checks.same("the last one's letters", x.syllable(2, 79, 0), 10);
        fault(EIGHTY.trim() + "bcdefghijk", 168, 2);
    }

    private static void mostLines() {
        Checks.sentence("a 13th LINE (at the / ahead of it)");
        good("a" + "/a".repeat(10), 11);
        Checks.same("line of the last", Checks.goodVerse(TWELVE, 12).syllable(2, 11, 2), 11);
        good(TWELVE + " b-c", 14);
        fault(TWELVE + "/a", 23, 3);
        fault(TWELVE + " \n/\na", 25, 3);
        fault(TWELVE + " b-c/d", 27, 3);
        String both = "a a a a a a/" + "a a a a a a a/".repeat(10) + "a a a a";
        good(both, 80);
        fault(both + "/a", both.length(), 3);
        fault(both + " a", both.length() + 1, 3);
    }

    private static void firstFault() {
        Checks.sentence("FAULTS, the first");
        fault("1 abcdefghijk", 0, 1);
        fault("abcdefghijk 1", 10, 2);
        fault("a 1 abcdefghijk", 2, 1);
        fault(EIGHTY + "b 1", 160, 3);
        fault(EIGHTY + "1 b", 160, 1);
        fault(EIGHTY + "' b", 160, 3);
        fault(EIGHTY + "-b", 160, 1);
        fault("abcdefghijk " + EIGHTY + "b", 10, 2);
        fault(TWELVE + "/1", 23, 3);
        fault(TWELVE + "/", 23, 3);
        fault(TWELVE + "//", 23, 3);
        fault(TWELVE + "1/a", 23, 1);
        fault(TWELVE + "-/a", 24, 1);
        fault(TWELVE + "bcdefghijk/a", 32, 2);
    }

    private static void faultsAtTheEnd() {
        Checks.sentence("1 a byte that can't come (at it; the end likewise; 400, if there are more and no FAULT is ahead)");
        fault("", 0, 1);
        fault(" ", 1, 1);
        fault("\n\n\n", 3, 1);
        fault("'", 1, 1);
        fault("a '", 3, 1);
        fault("a-", 2, 1);
        fault("a-'", 3, 1);
        fault("a/", 2, 1);
        fault("a/ ", 3, 1);
        fault("a/'", 3, 1);
        fault(" ".repeat(399), 399, 1);
        fault(" ".repeat(400), 400, 1);
        fault(" ".repeat(401), 400, 1);
        fault(" ".repeat(440), 400, 1);
    }

    private static void faultsAround400() {
        Checks.sentence("400, if there are more and no FAULT is ahead");
        for (String bad : new String[] {"1", "?", "-", "A", "_"}) {
            fault(stretched("a", bad, 400), 399, 1);
            fault(stretched("a", bad, 401), 400, 1);
            fault(stretched("a", "", 399) + bad + "b", 399, 1);
            fault(stretched("a", "", 400) + bad + "b", 400, 1);
        }
        for (String open : new String[] {"'", "/", "b-", "b/", "b-'"}) {
            fault(stretched("a", open, 399), 399, 1);
            fault(stretched("a", open, 400), 400, 1);
            fault(stretched("a", open, 400) + "b", 400, 1);
            good(stretched("a", open + "b", 400), open.startsWith("b") ? 3 : 2);
        }
        good(stretched("a", "abcdefghij", 400), 2);
        fault(stretched("a", "abcdefghijk", 400), 399, 2);
        fault(stretched("a", "abcdefghijk", 401), 400, 1);
        good(stretched(EIGHTY, "", 400), 80);
        fault(stretched(EIGHTY, "b", 400), 399, 3);
        fault(stretched(EIGHTY, "b", 401), 400, 1);
        fault(stretched(TWELVE, "/", 400), 399, 3);
        fault(stretched(TWELVE, "/", 401), 400, 1);
        fault(stretched("1", "", 440), 0, 1);
    }

    private static void aVerseTakesItsOwnPinsAndLaying() {
        Checks.sentence("The tape is VERSE v: how many SYLLABLES (its PINS go, it is not LAID)");
        for (int v = 0; v < 4; v++) {
            SungWords x = Checks.with("m4;c4 d4", "a b", "c d", "e f", "g h");
            for (int w = 0; w < 4; w++) {
                x.pin(w, 0, 0);
                x.pin(w, 1, 1);
                x.lay(w);
            }
            Checks.same("a new verse " + v, Checks.verse(x, v, "i j"), 2);
            Checks.same("laid", x.count(4), 3);
            Checks.same("the tape is empty", x.count(5), 0);
            for (int w = 0; w < 4; w++) {
                Checks.same("first pin", x.syllable(w, 0, 4), w == v ? -1 : 0);
                Checks.same("last pin", x.syllable(w, 1, 4), w == v ? -1 : 1);
                Checks.same("lies", x.lies(w, 1), w == v ? -1 : 1);
            }
            Checks.same("notes stay", x.count(0), 2);
        }
    }

    private static void kindOfTheLatest() {
        Checks.sentence("The kind of the FAULT of the latest tune() or verse() that did not throw; "
                + "0 without one and ahead of any.");
        String[] verses = {"1", "abcdefghijk", EIGHTY + "b", "a"};
        for (int kind = 0; kind < 4; kind++) {
            SungWords x = new SungWords();
            Checks.same("ahead of any", x.fault(), 0);
            Checks.outOfBounds("a throw ahead of any", () -> x.verse(4));
            Checks.same("still", x.fault(), 0);
            tunesBehindAVerse(x, verses[kind], (kind + 1) % 4);
            x.tune();
            x.price(9, 9);
            x.lay(0);
            x.row(0);
            Checks.same("other calls leave it", x.fault(), 1);
        }
    }

    private static void tunesBehindAVerse(SungWords x, String verse, int kind) {
        String[] tunes = {"m4;c4", "1", "m4;c0", SIXTY_ONE_NOTES};
        for (int other = 0; other < 4; other++) {
            Checks.verse(x, other, verse);
            Checks.same("of a verse", x.fault(), kind);
            Checks.tune(x, tunes[other]);
            Checks.same("of a tune", x.fault(), other);
            Checks.feed(x, verse);
            Checks.outOfBounds("a throw", () -> x.verse(-1));
            Checks.same("a throw leaves it", x.fault(), other);
            x.end(0);
        }
    }

    private static void whatASyllableTells() {
        Checks.sentence("Of SYLLABLE k of VERSE v: 0 how many letters, 1 1 if STRESSED, 2 its LINE, "
                + "3 its WORD (from 0 on, of the VERSE), "
                + "4 the NOTE to which it is PINNED (NONE). NoSuchElementException: there is none such, or another what.");
        SungWords x = Checks.with("m4;c4 d4", "'ab-c de/f", "g");
        x.pin(0, 1, 0);
        x.pin(0, 2, 1);
        int[][] due = {{2, 1, 0, 0, -1}, {1, 0, 0, 0, 0}, {2, 0, 0, 1, 1}, {1, 0, 1, 2, -1}};
        for (int k = 0; k < 4; k++) {
            for (int what = 0; what <= 4; what++) {
                Checks.same("syllable(0, " + k + ", " + what + ")", x.syllable(0, k, what), due[k][what]);
            }
            int syllable = k;
            for (int what : new int[] {-1, 5, Integer.MIN_VALUE, Integer.MAX_VALUE}) {
                Checks.noSuchElement("syllable(0, " + k + ", " + what + ")", () -> x.syllable(0, syllable, what));
            }
        }
        for (int k : new int[] {-1, 4, 79, 80, Integer.MIN_VALUE, Integer.MAX_VALUE}) {
            for (int what = -1; what <= 5; what++) {
                int asked = what;
                Checks.noSuchElement("syllable(0, " + k + ", " + what + ")", () -> x.syllable(0, k, asked));
            }
        }
        Checks.noSuchElement("of a shorter verse", () -> x.syllable(1, 1, 0));
        Checks.noSuchElement("of a verse without any", () -> x.syllable(2, 0, 0));
        for (int v : new int[] {-1, 4, Integer.MIN_VALUE, Integer.MAX_VALUE}) {
            Checks.outOfBounds("syllable(" + v + ", 0, 0)", () -> x.syllable(v, 0, 0));
            Checks.outOfBounds("syllable(" + v + ", -1, -1)", () -> x.syllable(v, -1, -1));
        }
    }
}
