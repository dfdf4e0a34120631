import java.util.ArrayList;
import java.util.Arrays;
import java.util.List;
import java.util.Random;

/** Made-up tunes, verses, prices and pins, of which each answer is held against the model's. */
public final class ModelTest {
    private static final Random RANDOM = new Random(20261116);

    public static void main(String[] args) {
        for (int i = 0; i < 4000; i++) {
            // Three texts each to one object: what an earlier one left must not show in a later one.
            SungWords x = new SungWords();
            for (int j = 0; j < 3; j++) {
                if (i % 2 == 0) {
                    readTune(x, spoiled(longTune(), "abcgmr0123456789(),; \nXhz-"), j == 2);
                } else {
                    readVerse(x, spoiled(longVerse(), "abcz'-/ \nA1_"), j == 2);
                }
            }
        }
        for (int i = 0; i < 4000; i++) {
            layAndSpace();
        }
        Checks.finish();
    }

    private static int upTo(int most) {
        return RANDOM.nextInt(most + 1);
    }

    private static boolean one(int in) {
        return RANDOM.nextInt(in) == 0;
    }

    // ---- texts

    private static String blanks() {
        return one(8) ? " \n".repeat(upTo(2)) + " " : one(3) ? "\n" : " ";
    }

    private static String note() {
        int length = one(3) ? 1 + upTo(31) : 1 << upTo(4);
        return "" + (char) ('a' + upTo(6)) + length;
    }

    private static String item() {
        if (one(6)) {
            return "r" + (1 + upTo(7));
        }
        if (one(4)) {
            StringBuilder slur = new StringBuilder("(").append(note());
            for (int i = upTo(2); i >= 0; i--) {
                slur.append(blanks()).append(note());
            }
            return slur.append(")").toString();
        }
        return note();
    }

    private static String tune(int phrases, int items) {
        StringBuilder text = new StringBuilder("m").append(2 + upTo(4)).append(";");
        for (int p = 0; p < phrases; p++) {
            text.append(p == 0 ? "" : ",");
            int noted = upTo(items - 1);
            for (int i = 0; i < items; i++) {
                text.append(i == noted ? note() : item()).append(blanks());
            }
        }
        return text.toString();
    }

    private static String longTune() {
        switch (upTo(9)) {
            case 0: return tune(10 + upTo(4), 1 + upTo(2));
            case 1: return tune(1, 40 + upTo(30));
            case 2: return tune(2 + upTo(3), 12 + upTo(8));
            default: return tune(1 + upTo(3), 1 + upTo(4));
        }
    }

    private static String syllable(int letters) {
        StringBuilder text = new StringBuilder(one(2) ? "'" : "");
        for (int i = upTo(letters - 1); i >= 0; i--) {
            text.append((char) ('a' + upTo(25)));
        }
        return text.toString();
    }

    private static String line(int syllables, int letters) {
        StringBuilder text = new StringBuilder();
        for (int i = 0; i < syllables; i++) {
            text.append(i == 0 ? "" : one(2) ? "-" : blanks()).append(syllable(letters));
        }
        return text.toString();
    }

    private static String longVerse() {
        int kind = upTo(9);
        int lines = kind == 0 ? 10 + upTo(4) : kind == 1 ? 1 : 1 + upTo(3);
        int syllables = kind == 0 ? 2 : kind == 1 ? 70 + upTo(20) : kind == 2 ? 25 : 5;
        StringBuilder text = new StringBuilder(line(1 + upTo(syllables - 1), 4 + upTo(6)));
        for (int i = 1; i < lines; i++) {
            text.append(one(2) ? " / " : "/").append(line(1 + upTo(syllables - 1), 4 + upTo(6)));
        }
        return text.toString();
    }

    /** The text with a few bytes put in, taken out or changed, or none; at most as long as the tape. */
    private static String spoiled(String text, String bytes) {
        StringBuilder spoilt = new StringBuilder(text);
        for (int i = one(3) ? 0 : upTo(2); i > 0; i--) {
            int at = upTo(spoilt.length() - 1);
            char b = bytes.charAt(upTo(bytes.length() - 1));
            switch (upTo(2)) {
                case 0: spoilt.insert(at, b); break;
                case 1: spoilt.setCharAt(at, b); break;
                default: spoilt.deleteCharAt(at); break;
            }
            if (spoilt.length() == 0) {
                return "";
            }
        }
        return spoilt.substring(0, Math.min(spoilt.length(), 440));
    }

    // ---- reading

    private static void readTune(SungWords x, String text, boolean whole) {
        Model.Fault fault = Model.faultOfTune(text);
        int got = Checks.tune(x, text);
        Checks.same("fault of <" + text + ">", x.fault(), fault == null ? 0 : fault.kind());
        if (fault != null) {
            Checks.same("tune <" + text + ">", got, -1 - fault.place());
            return;
        }
        List<Model.Note> notes = Model.notes(text);
        Checks.same("tune <" + text + ">", got, notes.size());
        for (int k = 0; whole && k < notes.size(); k++) {
            int[] due = notes.get(k).told();
            for (int what = 0; what < due.length; what++) {
                Checks.same("note(" + k + ", " + what + ") of <" + text + ">", x.note(k, what), due[what]);
            }
        }
        Checks.same("phrases of <" + text + ">", x.count(1), notes.get(notes.size() - 1).phrase() + 1);
    }

    private static void readVerse(SungWords x, String text, boolean whole) {
        Model.Fault fault = Model.faultOfVerse(text);
        int got = Checks.verse(x, 0, text);
        Checks.same("fault of <" + text + ">", x.fault(), fault == null ? 0 : fault.kind());
        if (fault != null) {
            Checks.same("verse <" + text + ">", got, -1 - fault.place());
            return;
        }
        List<Model.Syllable> syllables = Model.syllables(text);
        Checks.same("verse <" + text + ">", got, syllables.size());
        for (int k = 0; whole && k < syllables.size(); k++) {
            Model.Syllable due = syllables.get(k);
            Checks.same("letters in <" + text + ">", x.syllable(0, k, 0), due.letters().length());
            Checks.same("stress in <" + text + ">", x.syllable(0, k, 1), due.stressed());
            Checks.same("line in <" + text + ">", x.syllable(0, k, 2), due.line());
            Checks.same("word in <" + text + ">", x.syllable(0, k, 3), due.word());
        }
    }

    // ---- laying and spacing

    private static void layAndSpace() {
        int phrases = 1 + upTo(2);
        String tune = tune(phrases, 1 + upTo(3));
        List<Model.Note> notes = Model.notes(tune);
        SungWords x = Checks.with(tune);
        int[] prices = {4, 1, 3, 5, 6};
        if (one(2)) {
            for (int k = 0; k < 5; k++) {
                prices[k] = one(3) ? 0 : one(5) ? 1000 : upTo(4);
                Checks.same("price", x.price(k, prices[k]), true);
            }
        }
        List<List<Model.Syllable>> verses = new ArrayList<>();
        int[][] noteOf = new int[4][];
        // To ask for all of each verse would take more calls than an object has.
        int shown = upTo(3);
        for (int v = 0; v < 4; v++) {
            String verse = fittingVerse(notes, phrases);
            Checks.verse(x, v, verse);
            verses.add(Model.syllables(verse));
            int[] pins = pinSome(x, v, verses.get(v), notes);
            noteOf[v] = layOne(x, v, tune + " <- " + verse, notes, verses.get(v), prices, pins);
            if (v == shown) {
                showLaying(x, v, tune + " <- " + verse, notes.size(), verses.get(v).size(), noteOf[v]);
            }
        }
        spaceAll(x, tune, notes, verses, noteOf, shown);
        alikes(x, notes, noteOf, phrases);
    }

    private static String fittingVerse(List<Model.Note> notes, int phrases) {
        StringBuilder text = new StringBuilder();
        for (int p = 0; p < phrases; p++) {
            int phrase = p;
            int size = (int) notes.stream().filter(n -> n.phrase() == phrase).count();
            int syllables = one(10) ? 1 + upTo(2 * size) : Math.max(1, size - 1 + upTo(2));
            text.append(p == 0 ? "" : "/").append(line(syllables, one(3) ? 10 : 3));
        }
        return text.toString();
    }

    private static int[] pinSome(SungWords x, int v, List<Model.Syllable> verse, List<Model.Note> notes) {
        int[] pins = new int[verse.size()];
        Arrays.fill(pins, -1);
        for (int i = one(2) ? upTo(2) : 0; i > 0; i--) {
            int k = upTo(verse.size() - 1);
            int note = Model.firstNote(notes, verse.get(k).line()) + upTo(3);
            if (note < notes.size() && note != pins[k]) {
                Checks.same("pin", x.pin(v, k, note), true);
                pins[k] = note;
            }
        }
        return pins;
    }

    /** The note of each syllable, or null without a laying. */
    private static int[] layOne(SungWords x, int v, String what, List<Model.Note> notes,
            List<Model.Syllable> verse, int[] prices, int[] pins) {
        int lines = verse.get(verse.size() - 1).line() + 1;
        int[] noteOf = new int[verse.size()];
        int[] costs = new int[lines];
        int sum = 0;
        boolean can = true;
        for (int line = 0; line < lines; line++) {
            int[] first = firstOfTheBest(x, v, line, what, notes, verse, prices, pins);
            can &= first != null;
            if (first != null) {
                costs[line] = Model.cost(notes, verse, line, first, prices, pins);
                sum += costs[line];
                int k = Model.firstSyllable(verse, line);
                for (int i = 0; i < first.length; i++) {
                    for (int b = 0; b < first[i]; b++) {
                        noteOf[k++] = Model.firstNote(notes, line) + i;
                    }
                }
            }
        }
        Checks.same("lay " + what, x.lay(v), can ? sum : -1);
        for (int line = 0; can && line < lines; line++) {
            Checks.same("cost " + what, x.cost(v, line), costs[line]);
        }
        return can ? noteOf : null;
    }

    private static void showLaying(SungWords x, int v, String what, int notes, int syllables, int[] noteOf) {
        for (int k = 0; k < syllables; k++) {
            Checks.same("lies " + what, x.lies(v, k), noteOf == null ? -1 : noteOf[k]);
        }
        for (int n = 0; n < notes; n++) {
            int note = n;
            long due = noteOf == null ? -1 : Arrays.stream(noteOf).filter(m -> m == note).count();
            Checks.same("begins " + what, x.begins(v, n), due);
        }
    }

    private static int[] firstOfTheBest(SungWords x, int v, int line, String what, List<Model.Note> notes,
            List<Model.Syllable> verse, int[] prices, int[] pins) {
        int syllables = (int) verse.stream().filter(s -> s.line() == line).count();
        int[] first = null;
        int least = -1;
        int all = 0;
        int best = 0;
        for (int[] way : Model.allWays(notes, line, syllables)) {
            int cost = Model.cost(notes, verse, line, way, prices, pins);
            if (cost < 0) {
                continue;
            }
            all++;
            if (least < 0 || cost < least) {
                first = way;
                least = cost;
                best = 0;
            }
            best += cost == least ? 1 : 0;
        }
        Checks.same("ways " + what, x.ways(v, line, false), all);
        Checks.same("best ways " + what, x.ways(v, line, true), best);
        return first;
    }

    private static void spaceAll(SungWords x, String tune, List<Model.Note> notes,
            List<List<Model.Syllable>> verses, int[][] noteOf, int shown) {
        int[] columns = Model.columns(notes.size(), verses, noteOf);
        for (int n = 0; n < columns.length; n++) {
            Checks.same("column " + n + " of <" + tune + ">", x.column(n), columns[n]);
        }
        for (int v = 0; v < 4; v++) {
            if (noteOf[v] == null) {
                Checks.same("row of " + v, x.row(v), -1);
            } else {
                String due = Model.row(verses.get(v), noteOf[v], columns);
                Checks.same("bytes of row " + v, x.row(v), due.length());
                if (v == shown) {
                    Checks.same("row of " + v, Checks.out(x), due);
                }
            }
        }
    }

    private static void alikes(SungWords x, List<Model.Note> notes, int[][] noteOf, int phrases) {
        for (int v = 0; v < 4; v++) {
            for (int w = 0; w < 4; w++) {
                for (int p = 0; p < phrases; p++) {
                    boolean due = noteOf[v] != null && noteOf[w] != null;
                    for (int n = 0; due && n < notes.size(); n++) {
                        int note = n;
                        due = notes.get(n).phrase() != p || Arrays.stream(noteOf[v]).filter(m -> m == note).count()
                                == Arrays.stream(noteOf[w]).filter(m -> m == note).count();
                    }
                    Checks.same("alike " + v + " " + w, x.alike(v, w, p), due);
                }
            }
        }
    }
}
