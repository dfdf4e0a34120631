/** Promises 4, 6, 7 and 9: tunes, their faults, their notes, transposed. */
public final class TuneTest {
    public static void main(String[] args) {
        faultsOfTokens();
        faultsOfGrammar();
        faultsOfNumbers();
        faultsOfCounts();
        faultsOfLength();
        leastFaultOfAToken();
        notes();
        strongNotes();
        restsAndSlurs();
        faultsLeaveTheTune();
        newTuneDropsPinsAndLayings();
        oneBehindAnother();
        transposing();
        Checks.finish();
    }

    private static void faultsOfTokens() {
        Checks.tuneFault("m;c4", 0, 1);
        Checks.tuneFault("m44;c4", 0, 1);
        Checks.tuneFault("4m;c4", 0, 1);
        Checks.tuneFault("m4;c", 3, 1);
        Checks.tuneFault("m4;c444", 3, 1);
        Checks.tuneFault("m4;4", 3, 1);
        Checks.tuneFault("m4;h4", 3, 1);
        Checks.tuneFault("m4;c4d4", 3, 1);
        Checks.tuneFault("m4;c4 dd4", 6, 1);
        Checks.tuneFault("m4;c4 d4e", 6, 1);
        Checks.tuneFault("m4;c4 d4X", 6, 1);
        Checks.tuneFault("m4;c4 d4A", 6, 1);
        Checks.tuneFault("m4;c4 d4Z", 6, 1);
        Checks.tuneFault("m4;c4 d4@", 8, 1);
        Checks.tuneFault("m4;c4 d4[", 8, 1);
        Checks.tuneFault("m4;C4", 3, 1);
        Checks.tuneFault("m4;r", 3, 1);
        Checks.tuneFault("m4;c4 r123", 6, 1);
        Checks.tuneFault("m4;c4\td4", 5, 1);
        Checks.tuneFault("m4;c4\r", 5, 1);
        Checks.tuneFault("m4;c4!", 5, 1);
        Checks.tuneFault("m4;c4" + (char) 228, 5, 1);
        Checks.tuneFault("m4;c4-", 5, 1);
        Checks.tuneFault("m4;c 4", 3, 1);
        Checks.goodTune("\n m4 ;\nc4\n,d4 ", 2);
        Checks.goodTune("m4;(c4 d4)e4(f4 g4)r4,a4", 6);
        Checks.goodTune("m4;c04 d4", 2);
    }

    private static void faultsOfGrammar() {
        Checks.tuneFault("", 0, 1);
        Checks.tuneFault("   ", 3, 1);
        Checks.tuneFault("m4", 2, 1);
        Checks.tuneFault("m4 ", 3, 1);
        Checks.tuneFault("m4;", 3, 1);
        Checks.tuneFault("m4; ", 4, 1);
        Checks.tuneFault("c4", 0, 1);
        Checks.tuneFault(";c4", 0, 1);
        Checks.tuneFault("m4 c4", 3, 1);
        Checks.tuneFault("m4;m4", 3, 1);
        Checks.tuneFault("m4;c4;", 5, 1);
        Checks.tuneFault("m4;,c4", 3, 1);
        Checks.tuneFault("m4;c4,", 6, 1);
        Checks.tuneFault("m4;c4, \n", 8, 1);
        Checks.tuneFault("m4;c4,,d4", 6, 1);
        Checks.tuneFault("m4;r4,c4", 5, 1);
        Checks.tuneFault("m4;r4 r4", 8, 1);
        Checks.tuneFault("m4;c4,r4", 8, 1);
        Checks.tuneFault("m4;c4,r4,c4", 8, 1);
        Checks.tuneFault("m4;()", 4, 1);
        Checks.tuneFault("m4;(c4)", 6, 1);
        Checks.tuneFault("m4;(c4", 6, 1);
        Checks.tuneFault("m4;(c4 d4", 9, 1);
        Checks.tuneFault("m4;(c4 d4,e4)", 9, 1);
        Checks.tuneFault("m4;(c4 r4 d4)", 7, 1);
        Checks.tuneFault("m4;(r4 c4 d4)", 4, 1);
        Checks.tuneFault("m4;((c4 d4))", 4, 1);
        Checks.tuneFault("m4;(c4 d4))", 10, 1);
        Checks.tuneFault("m4;c4)", 5, 1);
        Checks.tuneFault("m4;(c4 d4;", 9, 1);
        Checks.tuneFault("m4;c4 (", 7, 1);
        Checks.goodTune("m4;r4 c4 r4 r4,(d4 e4) r4", 3);
    }

    private static void faultsOfNumbers() {
        Checks.tuneFault("m0;c4", 0, 2);
        Checks.tuneFault("m1;c4", 0, 2);
        Checks.tuneFault("m7;c4", 0, 2);
        Checks.tuneFault(" m9;c4", 1, 2);
        Checks.goodTune("m2;c4", 1);
        Checks.goodTune("m6;c4", 1);
        Checks.tuneFault("m4;c0", 3, 2);
        Checks.tuneFault("m4;c00", 3, 2);
        Checks.tuneFault("m4;c33", 3, 2);
        Checks.tuneFault("m4;c99 d0", 3, 2);
        Checks.tuneFault("m4;c4 r0", 6, 2);
        Checks.tuneFault("m4;c4 r33", 6, 2);
        Checks.tuneFault("m4;(c4 d40)", 7, 2);
        Checks.goodTune("m4;c1 c32 r1 r32", 2);
    }

    private static void faultsOfCounts() {
        String sixty = "m4;" + "c1 ".repeat(60);
        Checks.goodTune(sixty, 60);
        Checks.goodTune(sixty + "r4", 60);
        Checks.tuneFault(sixty + "d1", 183, 3);
        Checks.tuneFault(sixty + "d1 x", 183, 3);
        Checks.tuneFault(sixty + "(d1 d1)", 184, 3);
        Checks.tuneFault(sixty + ",c1", 184, 3);
        String twelve = "m4;c1" + ",c1".repeat(11);
        Checks.goodTune(twelve, 12);
        Checks.tuneFault(twelve + ",c1", 38, 3);
        Checks.tuneFault(twelve + " , c1", 39, 3);
        Checks.tuneFault(twelve + ",", 38, 3);
    }

    private static void faultsOfLength() {
        String blanks = " ".repeat(295);
        Checks.goodTune("m4;c4" + blanks, 1);
        Checks.tuneFault("m4;c4" + blanks + " ", 300, 1);
        Checks.tuneFault("m4;c4" + blanks + "x", 300, 1);
        Checks.tuneFault("m4;" + " ".repeat(298), 300, 1);
        String to299 = "m4;c4" + " ".repeat(294);
        Checks.goodTune(to299 + " ", 1);
        Checks.tuneFault(to299 + ",d4", 300, 1);
        Checks.tuneFault(to299 + "d4", 300, 1);
        Checks.tuneFault(to299 + "d0", 299, 2);
        Checks.tuneFault(to299 + "d33", 299, 2);
        Checks.tuneFault(to299 + "d333", 299, 1);
        Checks.tuneFault(to299 + "d", 299, 1);
        Checks.tuneFault(to299 + ";", 299, 1);
        Checks.tuneFault(to299 + "(", 300, 1);
        Checks.tuneFault(to299 + " x", 300, 1);
        Checks.tuneFault("x" + to299 + to299.substring(0, 100), 0, 1);
        Checks.tuneFault("m4;c4 " + "a".repeat(434), 6, 1);
        Checks.tuneFault("m4;c4" + " ".repeat(434) + "a", 300, 1);
        SungWords x = new SungWords();
        Checks.feed(x, "m4;c12");
        x.end(5);
        Checks.same("a token cut by end", x.tune(), 1);
        Checks.same("its length", x.note(0, 2), 1);
    }

    private static void leastFaultOfAToken() {
        Checks.tuneFault("m4;m9", 3, 1);
        Checks.tuneFault("c99", 0, 1);
        Checks.tuneFault("m4;(r99", 4, 1);
        Checks.tuneFault("m4;" + "c1 ".repeat(60) + "c33", 183, 2);
        Checks.tuneFault("m4;" + "c1 ".repeat(60) + "c333", 183, 1);
        Checks.tuneFault("m4;c1" + ",c1".repeat(11) + ",,", 38, 3);
        Checks.tuneFault("m4;c1" + ",c1".repeat(10) + ",r1,c1", 38, 1);
    }

    private static void notes() {
        SungWords x = Checks.with("m3;a1 r2 (b3 c4),d5 r6,r7 (e8 f9 g10) r11");
        int[][] due = {
            {0, 0, 1, 3, -1, 0, 0}, {1, 3, 3, 0, 0, 0, 1}, {2, 6, 4, 0, 1, 0, 0}, {3, 10, 5, 0, -1, 1, 0},
            {4, 28, 8, 1, 0, 2, 1}, {5, 36, 9, 3, 1, 2, 0}, {6, 45, 10, 0, 2, 2, 0},
        };
        for (int k = 0; k < due.length; k++) {
            for (int what = 0; what <= 6; what++) {
                Checks.same("note(" + k + ", " + what + ")", x.note(k, what), due[k][what]);
            }
        }
        Checks.same("notes", x.count(0), 7);
        Checks.same("phrases", x.count(1), 3);
        Checks.same("beats", x.count(2), 3);
        Checks.same("sum of lengths", x.count(7), 66);
        for (int k : new int[] {-1, 7, 60, Integer.MIN_VALUE, Integer.MAX_VALUE}) {
            Checks.noSuchElement("note(" + k + ", 0)", () -> x.note(k, 0));
        }
        for (int what : new int[] {-1, 7, Integer.MIN_VALUE, Integer.MAX_VALUE}) {
            Checks.noSuchElement("note(0, " + what + ")", () -> x.note(0, what));
        }
    }

    private static String strong(String tune) {
        SungWords x = Checks.with(tune);
        StringBuilder all = new StringBuilder();
        for (int k = 0; k < x.count(0); k++) {
            all.append(x.note(k, 3));
        }
        return all.toString();
    }

    private static void strongNotes() {
        String sixteen = "c2 ".repeat(16);
        Checks.same("strong in 2", strong("m2;" + sixteen), "3010301030103010");
        Checks.same("strong in 3", strong("m3;" + sixteen), "3010103010103010");
        Checks.same("strong in 4", strong("m4;" + sixteen), "3010201030102010");
        Checks.same("strong in 5", strong("m5;" + sixteen), "3010101010301010");
        Checks.same("strong in 6", strong("m6;" + sixteen), "3010101010103010");
        Checks.same("strong behind odd starts", strong("m4;c1 c1 c2 c4 c1 c3 c1 c3"), "30012010");
    }

    private static void restsAndSlurs() {
        SungWords x = Checks.with("m4;r1 c4 d4 r1 r1 (e4 f4) r2,g4");
        int[] behindRest = {1, 0, 1, 0, 1};
        for (int k = 0; k < behindRest.length; k++) {
            Checks.same("behind a rest " + k, x.note(k, 6), behindRest[k]);
        }
        SungWords y = Checks.with("m4;(c4 d4)(e4 f4 g4) a4");
        int[] places = {0, 1, 0, 1, 2, -1};
        for (int k = 0; k < places.length; k++) {
            Checks.same("place in slur " + k, y.note(k, 4), places[k]);
        }
    }

    private static void faultsLeaveTheTune() {
        SungWords x = Checks.with("m4;c4 d4", "a b");
        x.pin(0, 0, 0);
        x.lay(0);
        Checks.same("faulty tune", Checks.tune(x, "m3;e8,f8,g8 x"), -13);
        Checks.same("its kind", x.fault(), 1);
        Checks.same("notes stay", x.count(0), 2);
        Checks.same("phrases stay", x.count(1), 1);
        Checks.same("beats stay", x.count(2), 4);
        Checks.same("sum stays", x.count(7), 8);
        Checks.same("letter stays", x.note(0, 0), 2);
        Checks.same("laying stays", x.begins(0, 1), 1);
        Checks.same("pin stays", x.syllable(0, 0, 4), 0);
        Checks.same("good verse", Checks.verse(x, 1, "a"), 1);
        Checks.same("fault is the latest one's", x.fault(), 0);
        Checks.tune(x, "m9;c4");
        Checks.same("kind 2", x.fault(), 2);
        Checks.feed(x, "a");
        Checks.outOfBounds("verse(7)", () -> x.verse(7));
        Checks.same("a throw leaves the kind", x.fault(), 2);
    }

    private static void newTuneDropsPinsAndLayings() {
        SungWords x = Checks.with("m4;c4 d4", "a b", "c d");
        x.pin(0, 0, 0);
        x.pin(0, 1, 1);
        x.pin(1, 0, 0);
        x.lay(0);
        x.lay(1);
        x.row(0);
        Checks.same("laid", x.count(4), 2);
        Checks.same("tune again", Checks.tune(x, "m4;c4 d4"), 2);
        Checks.same("laid no more", x.count(4), 0);
        Checks.same("pin is gone", x.syllable(0, 0, 4), -1);
        Checks.same("pin is gone", x.syllable(0, 1, 4), -1);
        Checks.same("the other verse's too", x.syllable(1, 0, 4), -1);
        Checks.same("verses stay", x.count(3), 2);
        Checks.same("OUT stays", Checks.out(x), "a  b");
    }

    /** Nothing of an earlier text, good or faulty, is left for a later one. */
    private static void oneBehindAnother() {
        SungWords x = new SungWords();
        for (String text : new String[] {"m6;c4 d4 (e4", "m4;c4 r4 x", "m3;c4,d4,e4 r8", "m2;(c4 d4),r4", "m5;c4;"}) {
            Checks.tune(x, text);
            Checks.tune(x, text);
            Checks.same("a tune behind <" + text + ">", Checks.tune(x, "m4;a4 b4,c4"), 3);
            Checks.same("phrases", x.count(1), 2);
            Checks.same("beats", x.count(2), 4);
            Checks.same("sum", x.count(7), 12);
            Checks.same("start", x.note(2, 1), 8);
            Checks.same("slur", x.note(0, 4), -1);
            Checks.same("rest", x.note(0, 6), 0);
        }
    }

    private static void transposing() {
        SungWords x = Checks.with("m4;a1 b1 c1 d1 e1 f1 g1", "'o");
        x.lay(0);
        int sum = 0;
        for (int by : new int[] {0, 2, 1, 7, -1, -8, 700, Integer.MAX_VALUE, Integer.MIN_VALUE, -3}) {
            Checks.same("transpose(" + by + ")", x.transpose(by), 7);
            sum = Math.floorMod(sum + Math.floorMod(by, 7), 7);
            for (int k = 0; k < 7; k++) {
                Checks.same("letter " + k + " up " + by, x.note(k, 0), (k + sum) % 7);
            }
        }
        Checks.same("laying stays", x.count(4), 1);
        SungWords y = Checks.with("m4;c4 g4");
        y.transpose(2);
        Checks.same("c by 2 is e", y.note(0, 0), 4);
        y.transpose(-2);
        y.transpose(1);
        Checks.same("g by 1 is a", y.note(1, 0), 0);
        SungWords most = Checks.with("m4;" + "g1 ".repeat(60), "a ".repeat(80));
        Checks.same("transpose 60", most.transpose(1), 60);
        Checks.same("the last letter", most.note(59, 0), 0);
        most.pin(0, 79, 59);
        Checks.same("a tune under 80 syllables", Checks.tune(most, "m4;c4"), 1);
        Checks.same("the last pin is gone", most.syllable(0, 79, 4), -1);
        Checks.same("transpose without a tune", new SungWords().transpose(5), 0);
    }
}
