/** Each sentence of the document's part 1 and of promises 4, 7 and 9 that names an edge: at it, below it, above it. */
public final class TuneEdgeTest {
    private static final String SIXTY = "m4;" + "c1 ".repeat(60);
    private static final String TWELVE = "m4;c1" + ",c1".repeat(11);

    public static void main(String[] args) {
        mostBytes();
        firstByteOfAToken();
        secondByteOfANote();
        thirdByteOfANote();
        restTokens();
        barTokens();
        betweenTokens();
        signs();
        theBarComesFirst();
        phrasesWithoutANote();
        slurs();
        mostNotes();
        mostPhrases();
        lengths();
        beats();
        starts();
        strongs();
        firstFaultAlongTheText();
        leastFaultOfOneToken();
        faultsAtTheEnd();
        faultsAround300();
        aTuneTakesPinsAndLayings();
        whatANoteTells();
        transposing();
        Checks.finish();
    }

    private static void good(String text, int notes) {
        Checks.goodTune(text, notes);
    }

    private static void fault(String text, int place, int kind) {
        Checks.tuneFault(text, place, kind);
    }

    /** The text with blanks put in ahead of its last token, so that it has so many bytes. */
    private static String stretched(String head, String last, int bytes) {
        return head + " ".repeat(bytes - head.length() - last.length()) + last;
    }

    private static void mostBytes() {
        Checks.sentence("A TUNE is a text of at most 300 bytes.");
        for (int bytes : new int[] {5, 6, 298, 299, 300}) {
            good(stretched("m4;", "c4", bytes), 1);
            good(stretched("m4;c4", "", bytes), 1);
        }
        for (int bytes : new int[] {301, 302, 320, 439, 440}) {
            fault(stretched("m4;c4", "", bytes), 300, 1);
            fault(stretched("m4;c4", "d4", bytes), 300, 1);
        }
        SungWords x = new SungWords();
        Checks.feed(x, stretched("m4;c4", "", 301));
        x.end(300);
        Checks.same("300 of 301 bytes", x.tune(), 1);
    }

    private static boolean isLetterOrDigit(int b) {
        return b >= '0' && b <= '9' || b >= 'A' && b <= 'Z' || b >= 'a' && b <= 'z';
    }

    private static boolean isBlank(int b) {
        return b == 32 || b == 10;
    }

    private static void firstByteOfAToken() {
        Checks.sentence("NOTES: a letter a to g and 1 or 2 digits");
        for (int b = 0; b < 256; b++) {
            String text = "m4;c4 " + (char) b + "4";
            if (b >= 'a' && b <= 'g') {
                SungWords x = Checks.goodTune(text, 2);
                Checks.same("its letter", x.note(1, 0), b - 'a');
            } else if (b == 'r') {
                good(text, 1);
            } else {
                // Behind a blank or a sign that may come the 4 stands alone, which is no token either.
                fault(text, isBlank(b) || b == '(' || b == ',' ? 7 : 6, 1);
            }
        }
    }

    private static void secondByteOfANote() {
        Checks.sentence("what is not as told is none.");
        for (int b = 0; b < 256; b++) {
            String text = "m4;c4 d" + (char) b + " e4";
            if (b >= '1' && b <= '9') {
                SungWords x = Checks.goodTune(text, 3);
                Checks.same("its length", x.note(1, 2), b - '0');
            } else {
                fault(text, 6, b == '0' ? 2 : 1);
            }
        }
        fault("m4;c4 d", 6, 1);
        good("m4;c4 d9", 2);
        good("m4;c4 d10", 2);
        fault("m4;c4 d100", 6, 1);
        fault("m4;c4 d010", 6, 1);
    }

    private static void thirdByteOfANote() {
        Checks.sentence("Letters and digits that stand together are one TOKEN");
        for (int b = 0; b < 256; b++) {
            String text = "m4;c4 d3" + (char) b + " e4";
            if (isBlank(b) || b == ',') {
                good(text, 3);
            } else if (b >= '0' && b <= '2') {
                Checks.same("its length", Checks.goodTune(text, 3).note(1, 2), 30 + b - '0');
            } else if (b >= '3' && b <= '9') {
                fault(text, 6, 2);
            } else if (isLetterOrDigit(b)) {
                fault(text, 6, 1);
            } else {
                // A slur may open, but is not closed up to the end.
                fault(text, b == '(' ? text.length() : 8, 1);
            }
        }
        fault("m4;c4d4", 3, 1);
        fault("m4;c4r4", 3, 1);
        fault("m4c4;d4", 0, 1);
    }

    private static void restTokens() {
        Checks.sentence("RESTS: r and 1 or 2 digits");
        fault("m4;c4 r", 6, 1);
        good("m4;c4 r1", 1);
        good("m4;c4 r10", 1);
        fault("m4;c4 r100", 6, 1);
        fault("m4;c4 r4r4", 6, 1);
        fault("m4;c4 rr4", 6, 1);
        fault("m4;c4 R4", 6, 1);
        fault("m4;c4 q4", 6, 1);
        fault("m4;c4 s4", 6, 1);
    }

    private static void barTokens() {
        Checks.sentence("BARS: m and a digit");
        fault("m;c4", 0, 1);
        good("m4;c4", 1);
        fault("m44;c4", 0, 1);
        fault("m04;c4", 0, 1);
        fault("m4x;c4", 0, 1);
        fault("l4;c4", 0, 1);
        fault("n4;c4", 0, 1);
        fault("M4;c4", 0, 1);
        for (int b = 0; b < 256; b++) {
            String text = "m" + (char) b + ";c4";
            if (b >= '2' && b <= '6') {
                good(text, 1);
            } else {
                fault(text, 0, b >= '0' && b <= '9' ? 2 : 1);
            }
        }
    }

    private static void betweenTokens() {
        Checks.sentence("TOKENS, with blanks (32, 10) between them or not");
        for (int b = 0; b < 256; b++) {
            String text = "m4;c4" + (char) b + "d4";
            if (isBlank(b) || b == ',') {
                good(text, 2);
            } else if (isLetterOrDigit(b)) {
                fault(text, 3, 1);
            } else {
                fault(text, b == '(' ? text.length() : 5, 1);
            }
        }
        good("m4;(c4 d4)e4(f4 g4),a4", 6);
        good(" m4 ; ( c4 d4 ) e4 ( f4 g4 ) , a4 ", 6);
        good("\nm4\n;\n(\nc4\nd4\n)\n\n,\n \na4\n", 3);
    }

    private static void signs() {
        Checks.sentence("SIGNS ( ) , ; .");
        fault("m4;c4.", 5, 1);
        fault("m4;c4:", 5, 1);
        fault("m4;c4'", 5, 1);
        fault("m4;c4*", 5, 1);
        fault("m4;c4+", 5, 1);
        fault("m4;c4-", 5, 1);
        fault("m4:c4", 2, 1);
        fault("m4<c4", 2, 1);
    }

    private static void theBarComesFirst() {
        Checks.sentence("TEXT: BAR ; PHRASE { , PHRASE }.");
        fault("c4", 0, 1);
        fault("r4", 0, 1);
        fault(";c4", 0, 1);
        fault(",c4", 0, 1);
        fault("(c4 d4)", 0, 1);
        fault(")", 0, 1);
        fault("m4 m4;c4", 3, 1);
        fault("m4 c4", 3, 1);
        fault("m4 r4", 3, 1);
        fault("m4,c4", 2, 1);
        fault("m4(c4 d4)", 2, 1);
        fault("m4)", 2, 1);
        fault("m4;;c4", 3, 1);
        fault("m4;m4", 3, 1);
        fault("m4;c4 m4", 6, 1);
        fault("m4;c4,m4", 6, 1);
        fault("m4;c4;d4", 5, 1);
        good("m4;c4,d4", 2);
    }

    private static void phrasesWithoutANote() {
        Checks.sentence("PHRASE: ITEM { ITEM }, one NOTE at least.");
        Checks.sentence("a , or the end behind a PHRASE without a NOTE, too");
        fault("m4;,c4", 3, 1);
        fault("m4;r4,c4", 5, 1);
        fault("m4;r4 r4 , c4", 9, 1);
        fault("m4;c4,,c4", 6, 1);
        fault("m4;c4,r4,c4", 8, 1);
        fault("m4;", 3, 1);
        fault("m4;r4", 5, 1);
        fault("m4;r4 ", 6, 1);
        fault("m4;c4,", 6, 1);
        fault("m4;c4, r4\n", 10, 1);
        good("m4;c4", 1);
        good("m4;r4 c4,c4 r4,r4 (c4 d4) r4", 4);
    }

    private static void slurs() {
        Checks.sentence("ITEM: NOTE | REST | ( NOTE NOTE { NOTE } ): a SLUR.");
        fault("m4;()", 4, 1);
        fault("m4;(c4)", 6, 1);
        good("m4;(c4 d4)", 2);
        good("m4;(c4 d4 e4)", 3);
        good("m4;(" + "c1 ".repeat(60) + ")", 60);
        fault("m4;c4 d4 (e4)", 12, 1);
        fault("m4;(c4 d4)(e4)", 13, 1);
        fault("m4;(c4 (d4 e4))", 7, 1);
        fault("m4;(c4 d4 (e4 f4))", 10, 1);
        fault("m4;(c4 d4))", 10, 1);
        fault("m4;)c4", 3, 1);
        fault("m4;(r4", 4, 1);
        fault("m4;(c4 r4", 7, 1);
        fault("m4;(c4 d4 r4)", 10, 1);
        fault("m4;(c4,d4)", 6, 1);
        fault("m4;(c4 d4,e4)", 9, 1);
        fault("m4;(c4 d4;", 9, 1);
        fault("m4;(c4 d4 m4)", 10, 1);
        fault("m4;(", 4, 1);
        fault("m4;(c4 ", 7, 1);
        fault("m4;(c4 d4 ", 10, 1);
    }

    private static void mostNotes() {
        Checks.sentence("60 NOTES, 12 PHRASES at most.");
        Checks.sentence("3 a 61st NOTE, a 13th PHRASE (at it; at the , ahead of it).");
        good("m4;" + "c1 ".repeat(59), 59);
        good(SIXTY, 60);
        fault(SIXTY + "d1", 183, 3);
        fault(SIXTY + "\n d1 ", 185, 3);
        fault(SIXTY + "r1 d1", 186, 3);
        fault(SIXTY + ",d1", 184, 3);
        fault(SIXTY + "(d1 e1)", 184, 3);
        fault("m4;" + "c1 ".repeat(59) + "(d1 e1)", 184, 3);
        good("m4;" + "c1 ".repeat(58) + "(d1 e1)", 60);
        good("m4;" + "c1 ".repeat(30) + "," + "c1 ".repeat(30) + "r1 r1", 60);
        SungWords x = Checks.goodTune(SIXTY + "r32", 60);
        Checks.same("the last note's start", x.note(59, 1), 59);
        Checks.noSuchElement("a 61st", () -> x.note(60, 0));
    }

    private static void mostPhrases() {
        Checks.sentence("a 13th PHRASE (at it; at the , ahead of it)");
        good("m4;c1" + ",c1".repeat(10), 11);
        Checks.same("phrases", Checks.goodTune(TWELVE, 12).count(1), 12);
        Checks.same("phrase of the last", Checks.goodTune(TWELVE, 12).note(11, 5), 11);
        fault(TWELVE + ",c1", 38, 3);
        fault(TWELVE + "  ,\nc1", 40, 3);
        fault(TWELVE + " r1,", 41, 3);
        good(TWELVE + " c1 r1", 13);
        // Both at their most at once.
        good("m4;c1 c1 c1 c1 c1" + ",c1 c1 c1 c1 c1".repeat(11), 60);
        fault("m4;c1 c1 c1 c1 c1" + ",c1 c1 c1 c1 c1".repeat(11) + ",c1", 182, 3);
        fault("m4;c1 c1 c1 c1 c1" + ",c1 c1 c1 c1 c1".repeat(11) + " c1", 183, 3);
    }

    private static void lengths() {
        Checks.sentence("The digits of a NOTE, a REST are its LENGTH, 1 to 32");
        Checks.sentence("2 a LENGTH or BEATS that are not as told (at it)");
        for (int length = 0; length <= 99; length++) {
            for (String digits : new String[] {"" + length, (length < 10 ? "0" : "") + length}) {
                oneLength(length, digits);
            }
        }
    }

    private static void oneLength(int length, String digits) {
        String note = "m4;c4 d" + digits;
        String slurred = "m4;(c4 d" + digits + ")";
        String rest = "m4;c4 r" + digits + " d4";
        if (length >= 1 && length <= 32) {
            Checks.same("length of a note", Checks.goodTune(note, 2).note(1, 2), length);
            Checks.same("length in a slur", Checks.goodTune(slurred, 2).note(1, 2), length);
            Checks.same("start behind a rest", Checks.goodTune(rest, 2).note(1, 1), 4 + length);
            Checks.same("sum with a rest", Checks.goodTune(rest, 2).count(7), 8 + length);
        } else {
            fault(note, 6, 2);
            fault(slurred, 7, 2);
            fault(rest, 6, 2);
        }
    }

    private static void beats() {
        Checks.sentence("of a BAR its BEATS, 2 to 6, of 4 each.");
        for (int beats = 0; beats <= 9; beats++) {
            if (beats >= 2 && beats <= 6) {
                Checks.same("beats", Checks.goodTune("m" + beats + ";c4", 1).count(2), beats);
            } else {
                fault("m" + beats + ";c4", 0, 2);
                fault("\n m" + beats, 2, 2);
            }
        }
    }

    private static void starts() {
        Checks.sentence("A NOTE's START: the sum of LENGTHS ahead of it (RESTS, too).");
        Checks.same("nothing ahead", Checks.goodTune("m4;c4", 1).note(0, 1), 0);
        Checks.same("a rest ahead", Checks.goodTune("m4;r1 c4", 1).note(0, 1), 1);
        Checks.same("a phrase's rest ahead", Checks.goodTune("m4;c1 r2,r3 c4", 2).note(1, 1), 6);
        SungWords x = Checks.goodTune("m4;" + "c32 ".repeat(59) + "r32 r32 r32 c32", 60);
        Checks.same("the highest of 60", x.note(59, 1), 62 * 32);
        Checks.same("the sum", x.count(7), 63 * 32);
        SungWords y = Checks.goodTune("m2;" + "r32 ".repeat(73) + "c32", 1);
        Checks.same("as many rests as there is room for", y.note(0, 1), 73 * 32);
        Checks.same("the sum", y.count(7), 74 * 32);
    }

    private static int strong(int start, int beats) {
        StringBuilder text = new StringBuilder("m").append(beats).append(';');
        int left = start;
        for (; left > 32; left -= 32) {
            text.append("r32 ");
        }
        text.append(left > 0 ? "r" + left + " " : "").append("c1");
        return Checks.goodTune(text.toString(), 1).note(0, 3);
    }

    private static void strongs() {
        Checks.sentence("STRONG: 3 if START MOD (4 BEATS) is 0; else 2 if BEATS are 4 and START MOD 16 is 8; "
                + "else 1 if START MOD 4 is 0; else 0.");
        for (int beats = 2; beats <= 6; beats++) {
            int bar = 4 * beats;
            for (int at = 0; at <= 3 * bar; at += bar) {
                Checks.same("on a bar", strong(at, beats), 3);
                Checks.same("right behind a bar", strong(at + 1, beats), 0);
                Checks.same("right ahead of a bar", strong(at + bar - 1, beats), 0);
                Checks.same("a beat behind a bar", strong(at + 4, beats), 1);
                Checks.same("a beat ahead of a bar", strong(at + bar - 4, beats), 1);
            }
            Checks.same("8 of " + beats, strong(8, beats), beats == 2 ? 3 : beats == 4 ? 2 : 1);
            Checks.same("7 of " + beats, strong(7, beats), 0);
            Checks.same("9 of " + beats, strong(9, beats), 0);
            Checks.same("24 of " + beats, strong(24, beats), new int[] {3, 3, 2, 1, 3}[beats - 2]);
            Checks.same("2 of " + beats, strong(2, beats), 0);
        }
        Checks.same("40 of 4", strong(40, 4), 2);
        Checks.same("40 of 5", strong(40, 5), 3);
    }

    private static void firstFaultAlongTheText() {
        Checks.sentence("FAULTS, the first along the text, of one TOKEN the least");
        fault("m9;x c0", 0, 2);
        fault("m4;c0 x", 3, 2);
        fault("m4;x c0", 3, 1);
        fault("m4;c4 d0,", 6, 2);
        fault("m4;,d0", 3, 1);
        fault(SIXTY + "d1 d0 x", 183, 3);
        fault("m4;c0 " + "c1 ".repeat(60), 3, 2);
        fault(SIXTY + "x d1", 183, 1);
        fault(TWELVE + ",x", 38, 3);
        fault(TWELVE + ",", 38, 3);
        fault(TWELVE + "x,c1", 36, 1);
        fault(TWELVE + " c0,c1", 39, 2);
    }

    private static void leastFaultOfOneToken() {
        Checks.sentence("of one TOKEN the least: 1 no TOKEN, or one that can't come (at it");
        fault("c33", 0, 1);
        fault("r0", 0, 1);
        fault("m4 c0", 3, 1);
        fault("m4;m7", 3, 1);
        fault("m4;(r33", 4, 1);
        fault("m4;c4 d330", 6, 1);
        fault("m44;c4", 0, 1);
        fault(SIXTY + "c0", 183, 2);
        fault(SIXTY + "c33", 183, 2);
        fault(SIXTY + "c330", 183, 1);
        fault(SIXTY + "r33", 183, 2);
        // A 13th phrase's comma that can't come either, behind a 12th one without a note or in its slur.
        fault("m4;c1" + ",c1".repeat(10) + ",r1,c1", 38, 1);
        fault("m4;c1" + ",c1".repeat(10) + ",(c1 c1,c1)", 42, 1);
    }

    private static void faultsAtTheEnd() {
        Checks.sentence("the end: how many bytes there are");
        fault("", 0, 1);
        fault(" ", 1, 1);
        fault("\n\n\n", 3, 1);
        fault("m4", 2, 1);
        fault("m4 ", 3, 1);
        fault("m4;", 3, 1);
        fault(stretched("m4", "", 299), 299, 1);
        fault(stretched("m4;", "", 300), 300, 1);
        fault(stretched("m4;c4,", "", 300), 300, 1);
        fault(" ".repeat(300), 300, 1);
        fault(" ".repeat(301), 300, 1);
        fault(" ".repeat(440), 300, 1);
    }

    private static void faultsAround300() {
        Checks.sentence("300, if there are more and no FAULT is ahead: TOKENS that begin ahead of it are read whole");
        String to298 = stretched("m4;c4", "", 298);
        String to299 = stretched("m4;c4", "", 299);
        String to300 = stretched("m4;c4", "", 300);
        for (String bad : new String[] {"x", "?", ";", ")", "m4", "d", "d333", "d4d4", "dx"}) {
            fault(to299 + bad, 299, 1);
            fault(to300 + bad, 300, 1);
        }
        for (String bad : new String[] {"d0", "d33", "r0", "r99", "d00"}) {
            fault(to298 + bad, 298, 2);
            fault(to299 + bad, 299, 2);
            fault(to300 + bad, 300, 1);
        }
        // Cut at 300 these would be other tokens than read whole.
        good(to298 + "d3", 2);
        fault(to298 + "d32", 300, 1);
        fault(to298 + "d333", 298, 1);
        fault(to299 + "d4", 300, 1);
        fault(to299 + "d32", 300, 1);
        good(to299 + " ", 1);
        fault(to299 + ",", 300, 1);
        fault(to299 + "(", 300, 1);
        fault(to299 + ",d4", 300, 1);
        fault(stretched("m4;r4", ",", 300), 299, 1);
        fault(stretched("m4;r4", ",", 301), 300, 1);
        fault(stretched(SIXTY, "d4", 300), 298, 3);
        fault(stretched(SIXTY, "d4", 301), 299, 3);
        fault(stretched(SIXTY, "d4", 302), 300, 1);
        fault(stretched(TWELVE, ",", 300), 299, 3);
        fault(stretched(TWELVE, ",", 301), 300, 1);
        fault(stretched("m4;c4 x", "", 440), 6, 1);
        fault("m4;c4 " + "a".repeat(434), 6, 1);
        fault("a".repeat(440), 0, 1);
    }

    private static void aTuneTakesPinsAndLayings() {
        Checks.sentence("how many NOTES (PINS go, no VERSE is LAID)");
        SungWords x = Checks.with("m4;c4 d4", "a b", "c d", "e f", "g h");
        for (int v = 0; v < 4; v++) {
            x.pin(v, 0, 0);
            x.pin(v, 1, 1);
            x.lay(v);
        }
        Checks.same("laid", x.count(4), 4);
        Checks.same("the same tune again", Checks.tune(x, "m4;c4 d4"), 2);
        Checks.same("laid", x.count(4), 0);
        for (int v = 0; v < 4; v++) {
            Checks.same("first pin", x.syllable(v, 0, 4), -1);
            Checks.same("last pin", x.syllable(v, 1, 4), -1);
            Checks.same("begins", x.begins(v, 0), -1);
            Checks.same("lies", x.lies(v, 1), -1);
            Checks.same("row", x.row(v), -1);
        }
        Checks.same("verses stay", x.count(3), 4);
        Checks.sentence("The tape (empty then, here and below) is the TUNE");
        Checks.same("tape", x.count(5), 0);
        Checks.same("an empty tape is no tune", x.tune(), -1);
        Checks.same("its kind", x.fault(), 1);
        Checks.same("notes stay", x.count(0), 2);
    }

    private static void whatANoteTells() {
        Checks.sentence("NoSuchElementException: there is none such, or another what.");
        SungWords x = Checks.goodTune("m4;a1 r1 (g2 c3),r1 d4", 4);
        Checks.sentence("Of NOTE k: 0 its letter (0 to 6: a to g), 1 START, 2 LENGTH, 3 STRONG, "
                + "4 its place in its SLUR (from 0 on; NONE: in none), 5 its PHRASE, 6 1 if it is right behind a REST.");
        int[][] due = {{0, 0, 1, 3, -1, 0, 0}, {6, 2, 2, 0, 0, 0, 1}, {2, 4, 3, 1, 1, 0, 0}, {3, 8, 4, 2, -1, 1, 1}};
        for (int k = 0; k < 4; k++) {
            for (int what = 0; what <= 6; what++) {
                Checks.same("note(" + k + ", " + what + ")", x.note(k, what), due[k][what]);
            }
            int note = k;
            for (int what : new int[] {-1, 7, Integer.MIN_VALUE, Integer.MAX_VALUE}) {
                Checks.noSuchElement("note(" + k + ", " + what + ")", () -> x.note(note, what));
            }
        }
        for (int k : new int[] {-1, 4, 5, 60, Integer.MIN_VALUE, Integer.MAX_VALUE}) {
            for (int what = -1; what <= 7; what++) {
                int asked = what;
                Checks.noSuchElement("note(" + k + ", " + what + ")", () -> x.note(k, asked));
            }
        }
        Checks.noSuchElement("without a tune", () -> new SungWords().note(0, 0));
        Checks.tune(x, "m4;c4");
        Checks.noSuchElement("of an earlier, longer tune", () -> x.note(1, 0));
    }

    private static void transposing() {
        Checks.sentence("All NOTES' letters go up by so many (c by 2 is e; g by 1 is a; any whole number): how many NOTES.");
        // The highest number is 1 above a multiple of 7, the lowest one 2 below one.
        int[] bys = {-8, -7, -6, -1, 0, 1, 2, 6, 7, 8, Integer.MAX_VALUE, Integer.MIN_VALUE, Integer.MAX_VALUE - 1};
        int[] ups = {6, 0, 1, 6, 0, 1, 2, 6, 0, 1, 1, 5, 0};
        for (int i = 0; i < bys.length; i++) {
            SungWords x = Checks.with("m4;a1 b2 c3,d4 e5 f6 g7", "'a 'b/'c");
            x.lay(0);
            Checks.same("transpose(" + bys[i] + ")", x.transpose(bys[i]), 7);
            for (int k = 0; k < 7; k++) {
                Checks.same("letter " + k + " by " + bys[i], x.note(k, 0), (k + ups[i]) % 7);
                Checks.same("length stays", x.note(k, 2), k + 1);
            }
            Checks.same("laying stays", x.count(4), 1);
        }
        Checks.same("without a tune", new SungWords().transpose(1), 0);
        SungWords x = Checks.with("m4;g1");
        x.transpose(3);
        Checks.tune(x, "m4;g1");
        Checks.same("a new tune is as told", x.note(0, 0), 6);
    }
}
