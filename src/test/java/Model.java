import java.util.ArrayList;
import java.util.Arrays;
import java.util.List;
import java.util.regex.Matcher;
import java.util.regex.Pattern;

/** The document's terms once more, in other ways than the class: grammars by expressions, layings by trying all. */
final class Model {
    record Fault(int place, int kind) {
    }

    record Note(int letter, int start, int length, int strong, int slur, int phrase, int behindRest) {
        int[] told() {
            return new int[] {letter, start, length, strong, slur, phrase, behindRest};
        }
    }

    record Syllable(String letters, int stressed, int line, int word) {
    }

    private Model() {
    }

    // ---- tunes

    private record Token(int place, String text) {
    }

    /**
     * Faults of a tune by the longest good beginning: the tokens up to each one are written as a text of
     * one letter a token, and a regular expression tells whether such a beginning can come.
     */
    static Fault faultOfTune(String text) {
        List<Token> tokens = tokens(text);
        StringBuilder shape = new StringBuilder();
        int notes = 0;
        for (Token t : tokens) {
            if (t.place >= 300) {
                break;
            }
            char kind = kindOf(t.text);
            shape.append(kind);
            if (kind == '?' || !mayBegin(shape.toString())) {
                return new Fault(t.place, 1);
            }
            int number = kind == 'N' || kind == 'R' || kind == 'B' ? Integer.parseInt(t.text.substring(1)) : 4;
            int least = kind == 'B' ? 2 : 1;
            int most = kind == 'B' ? 6 : 32;
            if (number < least || number > most) {
                return new Fault(t.place, 2);
            }
            notes += kind == 'N' ? 1 : 0;
            if (notes > 60 || shape.chars().filter(c -> c == ',').count() > 11) {
                return new Fault(t.place, 3);
            }
        }
        if (text.length() > 300) {
            return new Fault(300, 1);
        }
        return mayEnd(shape.toString()) ? null : new Fault(text.length(), 1);
    }

    private static List<Token> tokens(String text) {
        List<Token> found = new ArrayList<>();
        Matcher m = Pattern.compile("[A-Za-z0-9]+|[^ \\n]", Pattern.DOTALL).matcher(text);
        while (m.find()) {
            found.add(new Token(m.start(), m.group()));
        }
        return found;
    }

    private static char kindOf(String token) {
        if (token.matches("[a-g][0-9]{1,2}")) {
            return 'N';
        }
        if (token.matches("r[0-9]{1,2}")) {
            return 'R';
        }
        if (token.matches("m[0-9]")) {
            return 'B';
        }
        return token.matches("[(),;]") ? token.charAt(0) : '?';
    }

    private static final String PHRASE = "(R|N|\\(NN+\\))*(N|\\(NN+\\))(R|N|\\(NN+\\))*";

    private static boolean mayEnd(String shape) {
        return shape.matches("B;" + PHRASE + "(," + PHRASE + ")*");
    }

    /** Whether some ending makes a whole tune of it. */
    private static boolean mayBegin(String shape) {
        for (String rest : new String[] {"", ";N", "N", ")", "N)", "NN)"}) {
            if (mayEnd(shape + rest)) {
                return true;
            }
        }
        return false;
    }

    static List<Note> notes(String text) {
        List<Note> found = new ArrayList<>();
        int beats = 0;
        int at = 0;
        int phrase = 0;
        int slur = -1;
        int rest = 0;
        for (Token t : tokens(text)) {
            char kind = kindOf(t.text);
            switch (kind) {
                case 'B': beats = t.text.charAt(1) - '0'; break;
                case ',': phrase++; break;
                case '(': slur = 0; break;
                case ')': slur = -1; break;
                case 'R': at += Integer.parseInt(t.text.substring(1)); rest = 1; break;
                case 'N':
                    int length = Integer.parseInt(t.text.substring(1));
                    found.add(new Note("abcdefg".indexOf(t.text.charAt(0)), at, length, strong(at, beats), slur, phrase, rest));
                    slur += slur < 0 ? 0 : 1;
                    at += length;
                    rest = 0;
                    break;
                default: break;
            }
        }
        return found;
    }

    private static int strong(int start, int beats) {
        if (start % (4 * beats) == 0) {
            return 3;
        }
        return beats == 4 && start % 16 == 8 ? 2 : start % 4 == 0 ? 1 : 0;
    }

    // ---- verses

    /** Faults of a verse by the longest good beginning, byte by byte. */
    static Fault faultOfVerse(String text) {
        for (int n = 1; n <= Math.min(text.length(), 400); n++) {
            String head = text.substring(0, n);
            if (verseMayBegin(head, 10)) {
                if (pieces(head) > 80 || head.chars().filter(c -> c == '/').count() > 11) {
                    return new Fault(n - 1, 3);
                }
            } else {
                return new Fault(n - 1, verseMayBegin(head, 11) ? 2 : 1);
            }
        }
        if (text.length() > 400) {
            return new Fault(400, 1);
        }
        return verseMayEnd(text, 10) ? null : new Fault(text.length(), 1);
    }

    private static int pieces(String head) {
        int found = 0;
        Matcher m = Pattern.compile("'[a-z]*|[a-z]+").matcher(head);
        while (m.find()) {
            found++;
        }
        return found;
    }

    private static boolean verseMayEnd(String text, int letters) {
        String syllable = "'?[a-z]{1," + letters + "}";
        String word = syllable + "(-" + syllable + ")*";
        for (String part : text.split("/", -1)) {
            if (!lineMatches(part, word)) {
                return false;
            }
        }
        return true;
    }

    private static boolean lineMatches(String line, String word) {
        int words = 0;
        for (String part : line.split("[ \\n]+")) {
            if (!part.isEmpty()) {
                words++;
                if (!part.matches(word)) {
                    return false;
                }
            }
        }
        return words > 0;
    }

    private static boolean verseMayBegin(String head, int letters) {
        return verseMayEnd(head, letters) || verseMayEnd(head + "a", letters);
    }

    static List<Syllable> syllables(String text) {
        List<Syllable> found = new ArrayList<>();
        int word = 0;
        String[] lines = text.split("/");
        for (int line = 0; line < lines.length; line++) {
            for (String w : lines[line].trim().split("[ \\n]+")) {
                for (String s : w.split("-")) {
                    boolean stressed = s.startsWith("'");
                    found.add(new Syllable(stressed ? s.substring(1) : s, stressed ? 1 : 0, line, word));
                }
                word++;
            }
        }
        return found;
    }

    // ---- layings

    /** All ways to lay a line, each told by what begins on the phrase's notes, in the document's order. */
    static List<int[]> allWays(List<Note> notes, int phrase, int syllables) {
        List<int[]> found = new ArrayList<>();
        int size = (int) notes.stream().filter(n -> n.phrase == phrase).count();
        int first = firstNote(notes, phrase);
        int tries = 1;
        for (int i = 0; i < size; i++) {
            tries *= 3;
        }
        for (int code = 0; code < tries; code++) {
            int[] way = new int[size];
            int rest = code;
            for (int i = size - 1; i >= 0; i--) {
                way[i] = rest % 3;
                rest /= 3;
            }
            boolean good = way[0] > 0 && Arrays.stream(way).sum() == syllables;
            for (int i = 0; i < size; i++) {
                good &= way[i] > 0 || notes.get(first + i).behindRest == 0;
            }
            if (good) {
                found.add(way);
            }
        }
        return found;
    }

    static int firstNote(List<Note> notes, int phrase) {
        int first = 0;
        while (notes.get(first).phrase != phrase) {
            first++;
        }
        return first;
    }

    static int firstSyllable(List<Syllable> syllables, int line) {
        int first = 0;
        while (syllables.get(first).line != line) {
            first++;
        }
        return first;
    }

    /** The cost of a way, or -1 if it does not keep the pins. */
    static int cost(List<Note> notes, List<Syllable> syllables, int line, int[] way, int[] prices, int[] pins) {
        int note = firstNote(notes, line);
        int k = firstSyllable(syllables, line);
        int sum = 0;
        for (int b : way) {
            Note n = notes.get(note);
            for (int i = 0; i < b; i++) {
                if (pins[k] != -1 && pins[k] != note) {
                    return -1;
                }
                sum += syllables.get(k).stressed == 1 ? prices[0] * (3 - n.strong) : prices[1] * n.strong;
                k++;
            }
            sum += b == 0 && n.slur < 1 ? prices[2] : 0;
            sum += b > 0 && n.slur >= 1 ? prices[3] : 0;
            sum += b == 2 ? prices[4] : 0;
            note++;
        }
        return sum;
    }

    // ---- spacing

    /** Raises columns until every rule of the spacing holds. Of each verse, the note of each syllable; null: not laid. */
    static int[] columns(int notes, List<List<Syllable>> verses, int[][] noteOf) {
        int[] columns = new int[notes];
        boolean raised = true;
        while (raised) {
            raised = false;
            for (int n = 1; n < notes; n++) {
                int least = columns[n - 1] + 3;
                for (int v = 0; v < noteOf.length; v++) {
                    if (noteOf[v] != null) {
                        least = Math.max(least, roomAhead(verses.get(v), noteOf[v], columns, n));
                    }
                }
                if (columns[n] < least) {
                    columns[n] = least;
                    raised = true;
                }
            }
        }
        return columns;
    }

    private static int roomAhead(List<Syllable> verse, int[] noteOf, int[] columns, int note) {
        int least = 0;
        for (int k = 1; k < noteOf.length; k++) {
            if (noteOf[k] == note && noteOf[k - 1] != note) {
                int room = verse.get(k).word == verse.get(k - 1).word ? 2 : 1;
                least = Math.max(least, endOf(verse, noteOf, columns, k - 1) + room);
            }
        }
        return least;
    }

    static int startOf(List<Syllable> verse, int[] noteOf, int[] columns, int k) {
        return k > 0 && noteOf[k - 1] == noteOf[k] ? endOf(verse, noteOf, columns, k - 1) + 1 : columns[noteOf[k]];
    }

    static int endOf(List<Syllable> verse, int[] noteOf, int[] columns, int k) {
        return startOf(verse, noteOf, columns, k) + verse.get(k).letters.length();
    }

    static String row(List<Syllable> verse, int[] noteOf, int[] columns) {
        char[] row = new char[3000];
        Arrays.fill(row, ' ');
        for (int k = 0; k < noteOf.length; k++) {
            int start = startOf(verse, noteOf, columns, k);
            int end = endOf(verse, noteOf, columns, k);
            for (int i = start; i < end; i++) {
                row[i] = verse.get(k).letters.charAt(i - start);
            }
            boolean last = k + 1 == noteOf.length;
            boolean endsWord = last || verse.get(k + 1).word != verse.get(k).word;
            if (!last && noteOf[k + 1] == noteOf[k]) {
                row[end] = '_';
            } else if (!endsWord) {
                int gap = columns[noteOf[k + 1]] - end;
                int hyphens = 1 + (gap - 1) / 10;
                for (int j = 0; j < hyphens; j++) {
                    row[end + gap * (2 * j + 1) / (2 * hyphens)] = '-';
                }
            }
            int lastHeld = (last ? columns.length : noteOf[k + 1]) - 1;
            if (endsWord && lastHeld > noteOf[k]) {
                for (int i = end + 1; i <= columns[lastHeld]; i++) {
                    row[i] = '_';
                }
            }
        }
        return new String(row).stripTrailing();
    }
}
