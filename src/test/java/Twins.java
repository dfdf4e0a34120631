import java.util.NoSuchElementException;

/**
 * Two objects made alike, of which one has a call more: if that call must change nothing, both tell the same then.
 * What no question shows (the tape's bytes, the costs) is told by reading and laying with it. All of this stays
 * within the 512 calls for which an object is used.
 */
final class Twins {
    interface Change {
        void on(SungWords x);
    }

    private Twins() {
    }

    /** Two phrases; two verses laid, one with a pin; a third only pinned, and no fourth; a tape, an OUT and a fault. */
    static SungWords made() {
        SungWords x = Checks.with("m4;c4 r4 (d4 e4),f8 g8", "'ro-ses are/'so red", "a 'b/'c d", "la la la/'la");
        for (int k = 0; k < 5; k++) {
            x.price(k, 3 + 2 * k);
        }
        x.pin(0, 2, 2);
        x.pin(2, 1, 1);
        Checks.same("lay 0", x.lay(0) >= 0, true);
        Checks.same("lay 1", x.lay(1) >= 0, true);
        x.row(0);
        Checks.verse(x, 3, "abcdefghijk");
        Checks.feed(x, "'oh my-'o/'yes 'no");
        return x;
    }

    /** Tells of a change that the call makes to any of the object's parts. */
    static void unchanged(String what, Change call) {
        unchanged(what, call, x -> { });
    }

    /** The same where a call must change a part: the second one changes just this. */
    static void unchanged(String what, Change call, Change due) {
        SungWords touched = made();
        SungWords plain = made();
        call.on(touched);
        due.on(plain);
        Checks.same(what + " changed", told(touched), told(plain));
    }

    /** All that an object tells; its tape, tune and verses are used up by it. */
    static String told(SungWords x) {
        StringBuilder all = new StringBuilder("fault ").append(x.fault());
        for (int what = 0; what < 8; what++) {
            all.append(" count ").append(x.count(what));
        }
        all.append("\nout ").append(Checks.out(x)).append("\ncolumns ").append(Checks.columns(x)).append("\nnotes");
        for (int k = 0; k < x.count(0); k++) {
            for (int what = 0; what < 7; what++) {
                all.append(' ').append(x.note(k, what));
            }
        }
        for (int v = 0; v < 4; v++) {
            all.append(verseTold(x, v));
        }
        all.append("\nalike ").append(x.alike(0, 1, 0)).append(x.alike(0, 1, 1)).append(x.alike(1, 2, 0));
        for (int v = 0; v < 3; v++) {
            all.append("\nrow ").append(v).append(' ').append(x.row(v)).append(' ').append(Checks.out(x));
        }
        return all.append(tapeTold(x)).append(pricesTold(x)).toString();
    }

    private static String verseTold(SungWords x, int v) {
        StringBuilder all = new StringBuilder("\nverse ").append(v).append(" syllables ");
        int k = 0;
        for (int letters = lettersOf(x, v, k); letters > 0; letters = lettersOf(x, v, k)) {
            all.append(letters).append(' ');
            for (int what = 1; what < 5; what++) {
                all.append(x.syllable(v, k, what)).append(' ');
            }
            k++;
        }
        all.append("lies ").append(Checks.lies(x, v, k)).append(" begins ").append(Checks.begins(x, v));
        for (int p = 0; p < x.count(1); p++) {
            all.append(" ways ").append(x.ways(v, p, false)).append(' ').append(x.ways(v, p, true));
            all.append(" cost ").append(costOrNone(x, v, p));
        }
        return all.toString();
    }

    /** None at all where there is no such syllable. */
    private static int lettersOf(SungWords x, int v, int k) {
        try {
            return x.syllable(v, k, 0);
        } catch (NoSuchElementException e) {
            return 0;
        }
    }

    private static int costOrNone(SungWords x, int v, int p) {
        try {
            return x.cost(v, p);
        } catch (NoSuchElementException e) {
            return -1;
        }
    }

    /** The row of the tape as a verse shows its letters, where its words part and which of them are stressed. */
    private static String tapeTold(SungWords x) {
        StringBuilder all = new StringBuilder("\ntape ").append(x.verse(3));
        all.append(" lay ").append(x.lay(3)).append(" row ").append(x.row(3)).append(' ').append(Checks.out(x));
        return all.toString();
    }

    /** Each phrase's cost is that of one price alone, or three times it. */
    private static String pricesTold(SungWords x) {
        StringBuilder all = new StringBuilder("\nprices");
        Checks.tune(x, "m4;r1 c15,d16,e16 f16,(g16 a16),b16");
        Checks.verse(x, 3, "'a/b/'c/'d 'e/'f 'g");
        x.pin(3, 4, 5);
        x.lay(3);
        for (int p = 0; p < 5; p++) {
            all.append(' ').append(costOrNone(x, 3, p) / (p < 2 ? 3 : 1));
        }
        return all.toString();
    }
}
