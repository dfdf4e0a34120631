/** Calls that are refused or throw, each at its edges: it answers as told and leaves everything as it was. */
public final class RefusedTest {
    private static final int[] NO_VERSES = {-1, 4, Integer.MIN_VALUE, Integer.MAX_VALUE};

    public static void main(String[] args) {
        twinsTellChanges();
        versesThatAreNot();
        elementsThatAreNot();
        fullTape();
        endsThatAreNot();
        faultyTunes();
        faultyVerses();
        pricesNotAsTold();
        pinsNotAsTold();
        noLayings();
        questions();
        Checks.finish();
    }

    /** Without this a telling that leaves a part out would find nothing changed. */
    private static void twinsTellChanges() {
        String plain = Twins.told(Twins.made());
        Checks.same("two alike", plain, Twins.told(Twins.made()));
        Twins.Change[] changes = {
            x -> x.feed(0, 0, 0, 0, 0), x -> x.end(17), x -> Checks.verse(x, 3, "a"), x -> x.transpose(1),
            x -> x.pin(2, 1, 2), x -> x.pin(0, 2, -1), x -> x.lay(2), x -> x.row(1), x -> x.end(0),
            x -> x.price(0, 4), x -> x.price(1, 4), x -> x.price(2, 4), x -> x.price(3, 4), x -> x.price(4, 4),
            x -> {
                x.end(0);
                Checks.feed(x, "'oh mi-'o/'yes 'no");
            },
        };
        for (int i = 0; i < changes.length; i++) {
            SungWords x = Twins.made();
            changes[i].on(x);
            Checks.same("change " + i + " is told", Twins.told(x).equals(plain), false);
        }
    }

    private static void throwsOutOfBounds(String what, Twins.Change call) {
        Twins.unchanged(what, x -> Checks.outOfBounds(what, () -> call.on(x)));
    }

    private static void throwsNoSuchElement(String what, Twins.Change call) {
        Twins.unchanged(what, x -> Checks.noSuchElement(what, () -> call.on(x)));
    }

    private static void versesThatAreNot() {
        Checks.sentence("A call that throws changes nothing.");
        Checks.sentence("IndexOutOfBoundsException: v is not 0 to 3 (here and below; the tape stays).");
        for (int v : NO_VERSES) {
            throwsOutOfBounds("verse(" + v + ")", x -> x.verse(v));
            throwsOutOfBounds("syllable(" + v + ", 0, 0)", x -> x.syllable(v, 0, 0));
            throwsOutOfBounds("syllable(" + v + ", -1, 5)", x -> x.syllable(v, -1, 5));
            throwsOutOfBounds("pin(" + v + ", 0, 0)", x -> x.pin(v, 0, 0));
            throwsOutOfBounds("pin(" + v + ", -1, -2)", x -> x.pin(v, -1, -2));
            throwsOutOfBounds("lay(" + v + ")", x -> x.lay(v));
            throwsOutOfBounds("cost(" + v + ", 0)", x -> x.cost(v, 0));
            throwsOutOfBounds("cost(" + v + ", 2)", x -> x.cost(v, 2));
            throwsOutOfBounds("ways(" + v + ", 0, false)", x -> x.ways(v, 0, false));
            throwsOutOfBounds("ways(" + v + ", 2, true)", x -> x.ways(v, 2, true));
            throwsOutOfBounds("begins(" + v + ", 0)", x -> x.begins(v, 0));
            throwsOutOfBounds("begins(" + v + ", 5)", x -> x.begins(v, 5));
            throwsOutOfBounds("lies(" + v + ", 0)", x -> x.lies(v, 0));
            throwsOutOfBounds("lies(" + v + ", -1)", x -> x.lies(v, -1));
            throwsOutOfBounds("alike(" + v + ", 0, 0)", x -> x.alike(v, 0, 0));
            throwsOutOfBounds("alike(0, " + v + ", 0)", x -> x.alike(0, v, 0));
            throwsOutOfBounds("alike(3, " + v + ", 2)", x -> x.alike(3, v, 2));
            throwsOutOfBounds("alike(" + v + ", " + v + ", -1)", x -> x.alike(v, v, -1));
            throwsOutOfBounds("row(" + v + ")", x -> x.row(v));
        }
    }

    private static void elementsThatAreNot() {
        Checks.sentence("A call that throws changes nothing.");
        int[][] notes = {{-1, 0}, {5, 0}, {0, -1}, {0, 7}, {4, 7}, {5, 7}};
        for (int[] n : notes) {
            throwsNoSuchElement("note(" + n[0] + ", " + n[1] + ")", x -> x.note(n[0], n[1]));
        }
        int[][] syllables = {{0, -1, 0}, {0, 5, 0}, {0, 0, -1}, {0, 0, 5}, {0, 4, 5}, {1, 4, 0}, {3, 0, 0}};
        for (int[] s : syllables) {
            throwsNoSuchElement("syllable(" + s[0] + ", " + s[1] + ", " + s[2] + ")",
                    x -> x.syllable(s[0], s[1], s[2]));
        }
        int[][] costs = {{0, -1}, {0, 2}, {1, 2}, {2, 0}, {3, 0}};
        for (int[] c : costs) {
            throwsNoSuchElement("cost(" + c[0] + ", " + c[1] + ")", x -> x.cost(c[0], c[1]));
        }
        for (int k : new int[] {-1, 5, 6}) {
            throwsNoSuchElement("column(" + k + ")", x -> x.column(k));
        }
        int bytes = Twins.made().count(6);
        for (int k : new int[] {-1, bytes, bytes + 1}) {
            throwsNoSuchElement("octet(" + k + ")", x -> x.octet(k));
        }
    }

    private static void fullTape() {
        Checks.sentence("NONE, and none come, if it would have more than 440.");
        for (int bytes = 421; bytes <= 440; bytes++) {
            SungWords x = new SungWords();
            String text = "a".repeat(10) + " ".repeat(bytes - 20) + "b".repeat(10);
            Checks.feed(x, text.substring(0, 420));
            // Behind 420 bytes there is room for the last twenty ones.
            Checks.same("feed to 440", x.feed(0x20202020, 0x20202020, 0x20202020, 0x20202020, 0x20202020), 440);
            x.end(bytes);
            Checks.same("feed to " + (bytes + 20), x.feed(-1, -1, -1, -1, -1), -1);
            Checks.same("the tape stays", x.count(5), bytes);
            x.end(400);
            Checks.same("and what it has", x.verse(0), 1);
        }
        Twins.Change toFull = x -> {
            for (int i = 0; i < 21; i++) {
                x.feed(0, 0, 0, 0, 0);
            }
            Checks.same("tape", x.count(5), 438);
        };
        Twins.unchanged("feed", x -> {
            toFull.on(x);
            Checks.same("feed to 458", x.feed(-1, -1, -1, -1, -1), -1);
            x.end(18);
        }, x -> {
            toFull.on(x);
            x.end(18);
        });
    }

    private static void endsThatAreNot() {
        Checks.sentence("false, if it has not so many, or n is below 0.");
        for (int n : new int[] {-1, 19, 20, 440, 441, Integer.MIN_VALUE, Integer.MAX_VALUE}) {
            Twins.unchanged("end(" + n + ")", x -> Checks.same("end(" + n + ")", x.end(n), false));
        }
        Twins.unchanged("end(18)", x -> Checks.same("end of all", x.end(18), true));
    }

    /** The tape is read and empty then; the kind is told anew by the same fault of a verse on the other twin. */
    private static void faultyTunes() {
        Checks.sentence("-1 less the place of its FAULT: all stays.");
        String sixty = "m3;" + "c1 ".repeat(60);
        String[] texts = {"", "m", "m3;a1,b2,c3 x", "m3;c1 c2 (d3", "m3;a1,b2,c33", "m7;c4", sixty + "c1",
            "m3;c1" + ",c1".repeat(12)};
        int[] places = {0, 0, 12, 12, 9, 0, 183, 38};
        int[] kinds = {1, 1, 1, 1, 2, 2, 3, 3};
        String[] verses = {"", "abcdefghijk", "a ".repeat(81)};
        for (int i = 0; i < texts.length; i++) {
            String text = texts[i];
            int place = places[i];
            String verse = verses[kinds[i] - 1];
            Twins.unchanged("tune <" + text + ">", x -> {
                x.end(0);
                Checks.same("tune <" + text + ">", Checks.tune(x, text), -1 - place);
            }, x -> {
                x.end(0);
                Checks.same("verse <" + verse + ">", Checks.verse(x, 3, verse) < 0, true);
            });
        }
    }

    private static void faultyVerses() {
        Checks.sentence("-1 less the place of its FAULT: it stays.");
        String[] texts = {"", "a b c/d e f/1", "'", "a-b/abcdefghijk", "a ".repeat(80) + "a", "a" + "/a".repeat(12)};
        int[] places = {0, 12, 1, 14, 160, 23};
        int[] kinds = {1, 1, 1, 2, 3, 3};
        String[] tunes = {"", "m9", "m3;c1" + ",c1".repeat(12)};
        for (int v = 0; v < 4; v++) {
            for (int i = 0; i < texts.length; i++) {
                int verse = v;
                String text = texts[i];
                int place = places[i];
                String tune = tunes[kinds[i] - 1];
                Twins.unchanged("verse " + v + " <" + text + ">", x -> {
                    x.end(0);
                    Checks.same("verse <" + text + ">", Checks.verse(x, verse, text), -1 - place);
                }, x -> {
                    x.end(0);
                    Checks.same("tune <" + tune + ">", Checks.tune(x, tune) < 0, true);
                });
            }
        }
    }

    private static void pricesNotAsTold() {
        Checks.sentence("false, and nothing is changed, if they are not as told.");
        int[][] wrong = {{-1, 0}, {5, 0}, {-1, 1000}, {5, 1000}, {0, -1}, {0, 1001}, {4, -1}, {4, 1001}, {2, 1001},
            {Integer.MIN_VALUE, 1}, {Integer.MAX_VALUE, 1}, {1, Integer.MIN_VALUE}, {1, Integer.MAX_VALUE}};
        for (int[] w : wrong) {
            String what = "price(" + w[0] + ", " + w[1] + ")";
            Twins.unchanged(what, x -> Checks.same(what, x.price(w[0], w[1]), false));
        }
    }

    private static void pinsNotAsTold() {
        Checks.sentence("false, and nothing is changed: no such SYLLABLE, no such NOTE, or it is so already.");
        int[][] wrong = {{0, -1, 0}, {0, 5, 0}, {0, 5, -1}, {1, 4, 0}, {3, 0, 0}, {3, 0, -1}, {0, 0, -2}, {0, 0, 5},
            {0, 2, 5}, {0, 2, -2}, {0, 2, 2}, {0, 0, -1}, {1, 0, -1}, {2, 1, 1}, {2, 1, 60},
            {0, Integer.MIN_VALUE, 0}, {0, Integer.MAX_VALUE, 0}, {0, 0, Integer.MIN_VALUE}, {0, 0, Integer.MAX_VALUE}};
        for (int[] w : wrong) {
            String what = "pin(" + w[0] + ", " + w[1] + ", " + w[2] + ")";
            Twins.unchanged(what, x -> Checks.same(what, x.pin(w[0], w[1], w[2]), false));
        }
    }

    private static void noLayings() {
        Checks.sentence("NONE, and it is not LAID");
        Twins.unchanged("lay(3) without syllables", x -> Checks.same("lay(3)", x.lay(3), -1));
        String[] verses = {"a", "a/b/c", "a b c d e f g/h", "a b/c d e f g"};
        for (String verse : verses) {
            Twins.Change put = x -> {
                x.end(0);
                Checks.verse(x, 2, verse);
            };
            Twins.unchanged("lay <" + verse + ">", x -> {
                put.on(x);
                Checks.same("lay <" + verse + ">", x.lay(2), -1);
            }, put);
        }
        Twins.Change pin = x -> x.pin(2, 1, 3);
        Twins.unchanged("lay of one pinned elsewhere", x -> {
            pin.on(x);
            Checks.same("lay(2)", x.lay(2), -1);
        }, pin);
        Twins.unchanged("lay of one that is laid", x -> Checks.same("lay(0)", x.lay(0), x.cost(0, 0) + x.cost(0, 1)));
    }

    /** Questions, answered or not, are no changes. */
    private static void questions() {
        Checks.sentence("NONE (OUT stays): it is not LAID.");
        Twins.unchanged("row(2)", x -> Checks.same("row(2)", x.row(2), -1));
        Twins.unchanged("row(3)", x -> Checks.same("row(3)", x.row(3), -1));
        Twins.unchanged("count", x -> {
            for (int what : new int[] {-1, 8, Integer.MIN_VALUE, Integer.MAX_VALUE}) {
                Checks.same("count(" + what + ")", x.count(what), -1);
            }
        });
        Twins.unchanged("begins", x -> Checks.same("begins", x.begins(0, -1) + x.begins(0, 5) + x.begins(2, 0), -3));
        Twins.unchanged("lies", x -> Checks.same("lies", x.lies(0, -1) + x.lies(0, 5) + x.lies(2, 0), -3));
        Twins.unchanged("ways", x -> Checks.same("ways", x.ways(0, -1, true) + x.ways(0, 2, false), -2));
        Twins.unchanged("ways of all", x -> {
            for (int v = 0; v < 4; v++) {
                Checks.same("ways", x.ways(v, 0, true) + x.ways(v, 1, true) + x.ways(v, 1, false) < 0, v == 3);
            }
        });
        Twins.unchanged("alike", x -> Checks.same("alike",
                x.alike(0, 0, -1) || x.alike(0, 0, 2) || x.alike(0, 2, 0) || x.alike(3, 1, 0), false));
        Twins.unchanged("column", x -> Checks.same("column", x.column(4) > 0, true));
        Twins.unchanged("transpose by 7", x -> Checks.same("transpose", x.transpose(7) + x.transpose(-14), 10));
        Twins.unchanged("fault", x -> Checks.same("fault", x.fault(), 2));
    }
}
