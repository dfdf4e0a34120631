import java.io.IOException;
import java.nio.file.Files;
import java.nio.file.Path;
import java.util.NoSuchElementException;

/** What the tests share: counting right and wrong answers, and feeding texts. */
final class Checks {
    interface Call {
        void run();
    }

    private static int right = 0;
    private static int wrong = 0;
    private static String document = null;

    private Checks() {
    }

    static void same(String what, long got, long due) {
        if (got == due) {
            right++;
        } else {
            wrong++;
            System.out.println(what + " answered " + got + ", due is " + due);
        }
    }

    static void same(String what, boolean got, boolean due) {
        same(what, got ? 1 : 0, due ? 1 : 0);
    }

    static void same(String what, String got, String due) {
        if (got.equals(due)) {
            right++;
        } else {
            wrong++;
            System.out.println(what + " answered <" + got + ">, due is <" + due + ">");
        }
    }

    /** Names the sentence that the checks below it are for, which must stand in the document just so. */
    static void sentence(String words) {
        if (document == null) {
            document = document();
        }
        same("the document has <" + words + ">", document.isEmpty() || document.contains(words), true);
    }

    /** The document with one blank wherever it has any, so that its lines may break anywhere; empty if it is not here. */
    static String document() {
        try {
            return Files.readString(Path.of("../shared/DOC.md")).replaceAll("\\s+", " ");
        } catch (IOException e) {
            System.out.println("the document can't be read, so that quotes of it are not looked up: " + e);
            return "";
        }
    }

    static void outOfBounds(String what, Call call) {
        same(what, thrownBy(call), "IndexOutOfBoundsException");
    }

    static void noSuchElement(String what, Call call) {
        same(what, thrownBy(call), "NoSuchElementException");
    }

    /** The class that is thrown, exactly: what the machine throws is always another one. */
    static String thrownBy(Call call) {
        try {
            call.run();
            return "nothing";
        } catch (IndexOutOfBoundsException | NoSuchElementException e) {
            return e.getClass().getSimpleName();
        }
    }

    /** Puts the text behind the tape, of which only the text's bytes are kept. */
    static void feed(SungWords x, String text) {
        int before = x.count(5);
        for (int at = 0; at < text.length(); at += 20) {
            x.feed(number(text, at), number(text, at + 4), number(text, at + 8),
                    number(text, at + 12), number(text, at + 16));
        }
        same("end for a text", x.end(before + text.length()), true);
    }

    private static int number(String text, int from) {
        int number = 0;
        for (int i = from; i < from + 4; i++) {
            number = number << 8 | (i < text.length() ? text.charAt(i) & 255 : 0);
        }
        return number;
    }

    static int tune(SungWords x, String text) {
        feed(x, text);
        return x.tune();
    }

    static int verse(SungWords x, int v, String text) {
        feed(x, text);
        return x.verse(v);
    }

    static void tuneFault(String text, int place, int kind) {
        SungWords x = new SungWords();
        same("tune <" + text + ">", tune(x, text), -1 - place);
        same("fault of <" + text + ">", x.fault(), kind);
        same("notes behind <" + text + ">", x.count(0), 0);
        same("sum behind <" + text + ">", x.count(7), 0);
    }

    static SungWords goodTune(String text, int notes) {
        SungWords x = new SungWords();
        same("tune <" + text + ">", tune(x, text), notes);
        same("fault of <" + text + ">", x.fault(), 0);
        same("notes of <" + text + ">", x.count(0), notes);
        return x;
    }

    static void verseFault(String text, int place, int kind) {
        SungWords x = new SungWords();
        same("verse <" + text + ">", verse(x, 2, text), -1 - place);
        same("fault of <" + text + ">", x.fault(), kind);
        same("verses behind <" + text + ">", x.count(3), 0);
    }

    static SungWords goodVerse(String text, int syllables) {
        SungWords x = new SungWords();
        same("verse <" + text + ">", verse(x, 2, text), syllables);
        same("fault of <" + text + ">", x.fault(), 0);
        same("verses behind <" + text + ">", x.count(3), 1);
        return x;
    }

    static SungWords with(String tune, String... verses) {
        SungWords x = new SungWords();
        same("notes of " + tune, tune(x, tune) > 0, true);
        for (int v = 0; v < verses.length; v++) {
            same("syllables of " + verses[v], verse(x, v, verses[v]) > 0, true);
        }
        return x;
    }

    static String begins(SungWords x, int v) {
        StringBuilder all = new StringBuilder();
        int notes = x.count(0);
        for (int n = 0; n < notes; n++) {
            all.append(x.begins(v, n));
        }
        return all.toString();
    }

    static String lies(SungWords x, int v, int syllables) {
        StringBuilder all = new StringBuilder();
        for (int k = 0; k < syllables; k++) {
            all.append(k == 0 ? "" : " ").append(x.lies(v, k));
        }
        return all.toString();
    }

    static String columns(SungWords x) {
        StringBuilder all = new StringBuilder();
        int notes = x.count(0);
        for (int n = 0; n < notes; n++) {
            all.append(n == 0 ? "" : " ").append(x.column(n));
        }
        return all.toString();
    }

    static String out(SungWords x) {
        StringBuilder all = new StringBuilder();
        int bytes = x.count(6);
        for (int k = 0; k < bytes; k++) {
            all.append((char) x.octet(k));
        }
        return all.toString();
    }

    static String row(SungWords x, int v) {
        int length = x.row(v);
        same("bytes of OUT", x.count(6), length);
        return out(x);
    }

    static void finish() {
        System.out.println(right + " answers right, " + wrong + " wrong");
        if (wrong != 0) {
            System.exit(1);
        }
    }
}
