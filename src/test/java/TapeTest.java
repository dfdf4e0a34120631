/** Promises 1 to 3, and what count tells of the tape. */
public final class TapeTest {
    public static void main(String[] args) {
        newObject();
        feeding();
        bytesOfANumber();
        ending();
        readingEmptiesTheTape();
        Checks.finish();
    }

    private static void newObject() {
        SungWords x = new SungWords();
        for (int what = 0; what <= 7; what++) {
            Checks.same("new: count(" + what + ")", x.count(what), 0);
        }
        Checks.same("count(8)", x.count(8), SungWords.NONE);
        Checks.same("count(-1)", x.count(-1), SungWords.NONE);
        Checks.same("count(least)", x.count(Integer.MIN_VALUE), SungWords.NONE);
        Checks.same("NONE", SungWords.NONE, -1);
        Checks.same("new: fault", x.fault(), 0);
        Checks.noSuchElement("new: note", () -> x.note(0, 0));
        Checks.noSuchElement("new: syllable", () -> x.syllable(3, 0, 0));
        Checks.noSuchElement("new: column", () -> x.column(0));
        Checks.noSuchElement("new: octet", () -> x.octet(0));
        Checks.noSuchElement("new: cost", () -> x.cost(0, 0));
        for (int v = 0; v < 4; v++) {
            Checks.same("new: lay", x.lay(v), -1);
            Checks.same("new: ways", x.ways(v, 0, true), -1);
            Checks.same("new: row", x.row(v), -1);
        }
        Checks.same("new: end(0)", x.end(0), true);
        Checks.same("new: end(1)", x.end(1), false);
        firstCosts();
    }

    /** Each of the costs 0 to 4, seen alone in a laying that has no other way. */
    private static void firstCosts() {
        Checks.same("cost 0", Checks.with("m4;r1 c4", "'a").lay(0), 4 * 3);
        Checks.same("cost 1", Checks.with("m4;c4", "a").lay(0), 3);
        Checks.same("cost 2", Checks.with("m4;c4 c4", "'a").lay(0), 3);
        Checks.same("cost 3", Checks.with("m4;(c16 c16)", "'a 'b").lay(0), 5);
        Checks.same("cost 4", Checks.with("m4;c4", "'a 'b").lay(0), 6);
    }

    private static void feeding() {
        SungWords x = new SungWords();
        for (int i = 1; i <= 22; i++) {
            Checks.same("feed " + i, x.feed(0, 0, 0, 0, 0), 20 * i);
        }
        Checks.same("feed over 440", x.feed(0, 0, 0, 0, 0), -1);
        Checks.same("tape stays", x.count(5), 440);
        x.end(421);
        Checks.same("feed to 441", x.feed(0, 0, 0, 0, 0), -1);
        Checks.same("tape stays", x.count(5), 421);
        x.end(420);
        Checks.same("feed to 440", x.feed(0, 0, 0, 0, 0), 440);
    }

    private static void bytesOfANumber() {
        SungWords x = new SungWords();
        x.feed('m' << 24 | '4' << 16 | ';' << 8 | 'a', '1' << 24 | ' ' << 16 | 'b' << 8 | '2',
                ' ' << 24 | 'c' << 16 | '3' << 8 | ' ', 'd' << 24 | '4' << 16 | ' ' << 8 | 'e',
                '5' << 24 | ' ' << 16 | 'f' << 8 | '6');
        Checks.same("tune fed in numbers", x.tune(), 6);
        for (int k = 0; k < 6; k++) {
            Checks.same("letter", x.note(k, 0), k);
            Checks.same("length", x.note(k, 2), k + 1);
        }
        // A highest byte above 127 must not spill into the ones beside it.
        x.feed(0x61806161, 0, 0, 0, 0);
        Checks.same("byte 128 in a verse", x.verse(0), -2);
        x.feed(0xE1616161, -1, 0, 0, 0);
        Checks.same("byte 225 in a verse", x.verse(0), -1);
    }

    private static void ending() {
        SungWords x = new SungWords();
        x.feed(0, 0, 0, 0, 0);
        Checks.same("end(21)", x.end(21), false);
        Checks.same("end(-1)", x.end(-1), false);
        Checks.same("end(most)", x.end(Integer.MAX_VALUE), false);
        Checks.same("end(least)", x.end(Integer.MIN_VALUE), false);
        Checks.same("tape stays", x.count(5), 20);
        Checks.same("end(20)", x.end(20), true);
        Checks.same("end(3)", x.end(3), true);
        Checks.same("tape is cut", x.count(5), 3);
        Checks.same("end(4)", x.end(4), false);
        Checks.same("feed behind 3", x.feed(0, 0, 0, 0, 0), 23);
        Checks.feed(x, "");
        x.end(0);
        Checks.feed(x, "m4;c");
        Checks.feed(x, "12 d");
        Checks.feed(x, "4");
        Checks.same("tune in parts", x.tune(), 2);
        Checks.same("length over parts", x.note(0, 2), 12);
    }

    private static void readingEmptiesTheTape() {
        SungWords x = new SungWords();
        Checks.tune(x, "m4;c4");
        Checks.same("tape behind tune", x.count(5), 0);
        Checks.tune(x, "m4;x4");
        Checks.same("tape behind a faulty tune", x.count(5), 0);
        Checks.verse(x, 0, "a");
        Checks.same("tape behind verse", x.count(5), 0);
        Checks.verse(x, 0, "1");
        Checks.same("tape behind a faulty verse", x.count(5), 0);
        Checks.feed(x, "word");
        Checks.outOfBounds("verse(4)", () -> x.verse(4));
        Checks.outOfBounds("verse(-1)", () -> x.verse(-1));
        Checks.same("tape stays behind a throw", x.count(5), 4);
        Checks.same("verse from the tape that stayed", x.verse(3), 1);
        Checks.same("its letters", x.syllable(3, 0, 0), 4);
    }
}
