/** Promises 5, 6 and 8: verses, their faults and their syllables. */
public final class VerseTest {
    public static void main(String[] args) {
        faultsOfBytes();
        faultsOfCounts();
        faultsOfLength();
        syllables();
        faultsLeaveTheVerse();
        newVerseDropsItsOwnAlone();
        oneBehindAnother();
        wrongNumbers();
        Checks.finish();
    }

    private static void faultsOfBytes() {
        Checks.verseFault("", 0, 1);
        Checks.verseFault(" \n", 2, 1);
        Checks.verseFault("A", 0, 1);
        Checks.verseFault("a1", 1, 1);
        Checks.verseFault("a\tb", 1, 1);
        Checks.verseFault("a" + (char) 228, 1, 1);
        Checks.verseFault("a_b", 1, 1);
        Checks.verseFault("'", 1, 1);
        Checks.verseFault("' a", 1, 1);
        Checks.verseFault("''a", 1, 1);
        Checks.verseFault("'-a", 1, 1);
        Checks.verseFault("'/a", 1, 1);
        Checks.verseFault("a'b", 1, 1);
        Checks.verseFault("a'", 1, 1);
        Checks.verseFault("-a", 0, 1);
        Checks.verseFault("a-", 2, 1);
        Checks.verseFault("a- b", 2, 1);
        Checks.verseFault("a -b", 2, 1);
        Checks.verseFault("a--b", 2, 1);
        Checks.verseFault("a-/b", 2, 1);
        Checks.verseFault("/a", 0, 1);
        Checks.verseFault(" /a", 1, 1);
        Checks.verseFault("a/", 2, 1);
        Checks.verseFault("a/ ", 3, 1);
        Checks.verseFault("a//b", 2, 1);
        Checks.verseFault("a/ /b", 3, 1);
        Checks.verseFault("a/-b", 2, 1);
        Checks.goodVerse(" a\n", 1);
        Checks.goodVerse("a / b", 2);
        Checks.goodVerse("a/'b-'c\n/\n d", 4);
    }

    private static void faultsOfCounts() {
        Checks.goodVerse("abcdefghij", 1);
        Checks.goodVerse("'abcdefghij-klmnopqrst uvwxyzabcd", 3);
        Checks.verseFault("abcdefghijk", 10, 2);
        Checks.verseFault("'abcdefghijk", 11, 2);
        Checks.verseFault("a-abcdefghijk", 12, 2);
        Checks.verseFault("abcdefghij1", 10, 1);
        String eighty = "a ".repeat(80);
        Checks.goodVerse(eighty, 80);
        Checks.verseFault(eighty + "b", 160, 3);
        Checks.verseFault(eighty + " \n'", 162, 3);
        Checks.verseFault(eighty + "B", 160, 1);
        Checks.verseFault(eighty + "/b", 161, 3);
        Checks.verseFault(eighty + "/", 161, 1);
        Checks.verseFault("a" + "-a".repeat(80), 160, 3);
        Checks.verseFault("a" + "-a".repeat(79) + "-'b", 160, 3);
        String twelve = "a" + "/a".repeat(11);
        Checks.goodVerse(twelve, 12);
        Checks.verseFault(twelve + "/a", 23, 3);
        Checks.verseFault(twelve + " /a", 24, 3);
        Checks.verseFault(twelve + "/", 23, 3);
        Checks.verseFault(twelve + "-/", 24, 1);
    }

    private static void faultsOfLength() {
        String to399 = "a" + " ".repeat(398);
        Checks.goodVerse(to399 + "b", 2);
        Checks.goodVerse(to399 + " ", 1);
        Checks.verseFault(to399 + "  ", 400, 1);
        Checks.verseFault(to399 + "bb", 400, 1);
        Checks.verseFault(to399 + "b?", 400, 1);
        Checks.verseFault(to399 + "-b", 399, 1);
        Checks.verseFault(to399 + "'", 400, 1);
        Checks.verseFault(to399 + "'b", 400, 1);
        Checks.verseFault(to399 + "/", 400, 1);
        Checks.verseFault("a" + " ".repeat(388) + "abcdefghij" + "- ", 400, 1);
        Checks.verseFault("a" + " ".repeat(389) + "abcdefghij" + "k", 400, 1);
        Checks.verseFault("a" + " ".repeat(388) + "abcdefghij" + "kl", 399, 2);
        Checks.verseFault("'", 1, 1);
        Checks.verseFault("?" + to399 + "    ", 0, 1);
    }

    private static void syllables() {
        SungWords x = Checks.goodVerse("'ro-ses a/\nre-'al-ly\n'red", 7);
        int[][] due = {
            {2, 1, 0, 0}, {3, 0, 0, 0}, {1, 0, 0, 1}, {2, 0, 1, 2}, {2, 1, 1, 2}, {2, 0, 1, 2}, {3, 1, 1, 3},
        };
        for (int k = 0; k < due.length; k++) {
            for (int what = 0; what <= 3; what++) {
                Checks.same("syllable(2, " + k + ", " + what + ")", x.syllable(2, k, what), due[k][what]);
            }
            Checks.same("no pin", x.syllable(2, k, 4), -1);
        }
        for (int k : new int[] {-1, 7, 80, Integer.MIN_VALUE, Integer.MAX_VALUE}) {
            Checks.noSuchElement("syllable(2, " + k + ", 0)", () -> x.syllable(2, k, 0));
        }
        for (int what : new int[] {-1, 5, Integer.MIN_VALUE, Integer.MAX_VALUE}) {
            Checks.noSuchElement("syllable(2, 0, " + what + ")", () -> x.syllable(2, 0, what));
        }
        Checks.noSuchElement("syllable of no verse", () -> x.syllable(1, 0, 0));
        Checks.outOfBounds("syllable(4, 99, 99)", () -> x.syllable(4, 99, 99));
        Checks.outOfBounds("syllable(-1, 0, 0)", () -> x.syllable(-1, 0, 0));
    }

    private static void faultsLeaveTheVerse() {
        SungWords x = Checks.with("m4;c4 d4", "o 'my");
        x.pin(0, 1, 1);
        x.lay(0);
        Checks.same("faulty verse", Checks.verse(x, 0, "lo/-"), -4);
        Checks.same("its kind", x.fault(), 1);
        Checks.same("letters stay", x.syllable(0, 1, 0), 2);
        Checks.same("stress stays", x.syllable(0, 1, 1), 1);
        Checks.same("pin stays", x.syllable(0, 1, 4), 1);
        Checks.same("laying stays", x.lies(0, 1), 1);
        Checks.same("row stays", Checks.row(x, 0), "o  my");
    }

    private static void newVerseDropsItsOwnAlone() {
        SungWords x = Checks.with("m4;c4 d4", "o my", "so be");
        x.pin(0, 1, 1);
        x.pin(1, 1, 1);
        x.lay(0);
        x.lay(1);
        Checks.same("the same verse again", Checks.verse(x, 0, "o my"), 2);
        Checks.same("its pin is gone", x.syllable(0, 1, 4), -1);
        Checks.same("it is not laid", x.lies(0, 0), -1);
        Checks.same("the other's pin stays", x.syllable(1, 1, 4), 1);
        Checks.same("the other is laid", x.lies(1, 1), 1);
        Checks.same("a shorter verse", Checks.verse(x, 0, "a"), 1);
        Checks.noSuchElement("what is left of the longer", () -> x.syllable(0, 1, 0));
        Checks.same("a verse in each place", Checks.verse(x, 2, "b") + Checks.verse(x, 3, "c d"), 3);
        Checks.same("verses with syllables", x.count(3), 4);
    }

    /** Nothing of an earlier text, good or faulty, is left for a later one. */
    private static void oneBehindAnother() {
        SungWords x = Checks.with("m4;c16 d16");
        for (String text : new String[] {"a-b c/'", "'abcdefghij-k l/m/n", "a b c 1", "abcdefghij ".repeat(36)}) {
            Checks.verse(x, 0, text);
            Checks.verse(x, 0, text);
            Checks.same("a verse behind <" + text + ">", Checks.verse(x, 0, "'no 'more"), 2);
            Checks.same("word", x.syllable(0, 1, 3), 1);
            Checks.same("line", x.syllable(0, 1, 2), 0);
            Checks.same("not laid", x.lies(0, 0), -1);
            Checks.same("lay", x.lay(0), 0);
            Checks.same("row", Checks.row(x, 0), "no more");
            Checks.same("the same again is not laid", Checks.verse(x, 0, "'no 'more") + x.lies(0, 0), 1);
            Checks.same("nor is the one behind it", Checks.verse(x, 0, "'no 'more") + x.lies(0, 0), 1);
            x.lay(0);
        }
    }

    private static void wrongNumbers() {
        SungWords x = Checks.with("m4;c4", "a");
        x.lay(0);
        for (int v : new int[] {-1, 4, Integer.MIN_VALUE, Integer.MAX_VALUE}) {
            Checks.outOfBounds("verse", () -> x.verse(v));
            Checks.outOfBounds("syllable", () -> x.syllable(v, 0, 0));
            Checks.outOfBounds("pin", () -> x.pin(v, 0, 0));
            Checks.outOfBounds("lay", () -> x.lay(v));
            Checks.outOfBounds("cost", () -> x.cost(v, 0));
            Checks.outOfBounds("ways", () -> x.ways(v, 0, true));
            Checks.outOfBounds("begins", () -> x.begins(v, 0));
            Checks.outOfBounds("lies", () -> x.lies(v, 0));
            Checks.outOfBounds("alike", () -> x.alike(v, 0, 0));
            Checks.outOfBounds("alike", () -> x.alike(0, v, 0));
            Checks.outOfBounds("row", () -> x.row(v));
        }
    }
}
