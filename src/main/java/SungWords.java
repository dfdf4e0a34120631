import java.util.NoSuchElementException;

/** A setter of sung words: a tune and up to four verses, laid to its notes at least cost and spaced. */
public final class SungWords {
    public static final int NONE = -1;

    private static final int MOST_TAPE = 440;
    private static final int FED_BYTES = 20;
    private static final int MOST_VERSES = 4;

    private final byte[] tape;
    private int taped;
    private int faultKind;
    private Tune melody;
    private Tune spareMelody;
    private final Verse[] verses;
    private Verse spareVerse;
    private final TuneReader tuneReader;
    private final VerseReader verseReader;
    private final Layer layer;
    private final Spacer spacer;
    private final Sheet out;

    public SungWords() {
        tape = new byte[MOST_TAPE];
        taped = 0;
        faultKind = 0;
        melody = new Tune();
        spareMelody = new Tune();
        verses = new Verse[MOST_VERSES];
        for (int v = 0; v < MOST_VERSES; v++) {
            verses[v] = new Verse();
        }
        spareVerse = new Verse();
        tuneReader = new TuneReader();
        verseReader = new VerseReader();
        layer = new Layer();
        spacer = new Spacer();
        out = new Sheet();
    }

    public int feed(int a, int b, int c, int d, int e) {
        if (taped > MOST_TAPE - FED_BYTES) {
            return NONE;
        }
        putNumber(taped, a);
        putNumber(taped + 4, b);
        putNumber(taped + 8, c);
        putNumber(taped + 12, d);
        putNumber(taped + 16, e);
        taped += FED_BYTES;
        return taped;
    }

    public boolean end(int n) {
        if (n < 0 || n > taped) {
            return false;
        }
        taped = n;
        return true;
    }

    public int tune() {
        int place = tuneReader.read(tape, taped, spareMelody);
        faultKind = tuneReader.kind;
        taped = 0;
        if (place != NONE) {
            return -1 - place;
        }
        // The reader wrote into the spare, so that a fault leaves the standing tune whole.
        Tune old = melody;
        melody = spareMelody;
        spareMelody = old;
        for (int v = 0; v < MOST_VERSES; v++) {
            verses[v].dropPins();
        }
        dropLayings();
        return melody.notes;
    }

    public int verse(int v) throws IndexOutOfBoundsException {
        checkVerse(v);
        int place = verseReader.read(tape, taped, spareVerse);
        faultKind = verseReader.kind;
        taped = 0;
        if (place != NONE) {
            return -1 - place;
        }
        Verse old = verses[v];
        verses[v] = spareVerse;
        spareVerse = old;
        return verses[v].syllables;
    }

    public int fault() {
        return faultKind;
    }

    public int note(int k, int what) throws NoSuchElementException {
        if (!melody.hasNote(k) || what < 0 || what > 6) {
            throw new NoSuchElementException();
        }
        return melody.tell(k, what);
    }

    public int syllable(int v, int k, int what) throws IndexOutOfBoundsException, NoSuchElementException {
        checkVerse(v);
        if (!verses[v].hasSyllable(k) || what < 0 || what > 4) {
            throw new NoSuchElementException();
        }
        return verses[v].tell(k, what);
    }

    public int transpose(int by) {
        melody.shiftLetters(Math.floorMod(by, Tune.LETTERS));
        return melody.notes;
    }

    public boolean price(int k, int c) {
        if (!layer.setPrice(k, c)) {
            return false;
        }
        dropLayings();
        return true;
    }

    public boolean pin(int v, int k, int note) throws IndexOutOfBoundsException {
        checkVerse(v);
        if (note != NONE && !melody.hasNote(note)) {
            return false;
        }
        return verses[v].setPin(k, note);
    }

    public int lay(int v) throws IndexOutOfBoundsException {
        checkVerse(v);
        return fits(v) ? layer.layVerse(melody, verses[v]) : NONE;
    }

    public int cost(int v, int phrase) throws IndexOutOfBoundsException, NoSuchElementException {
        checkVerse(v);
        if (!verses[v].laid || !melody.hasPhrase(phrase)) {
            throw new NoSuchElementException();
        }
        return verses[v].lineCost[phrase];
    }

    public long ways(int v, int line, boolean best) throws IndexOutOfBoundsException {
        checkVerse(v);
        if (!fits(v) || !melody.hasPhrase(line)) {
            return NONE;
        }
        return layer.countWays(melody, verses[v], line, best);
    }

    public int begins(int v, int note) throws IndexOutOfBoundsException {
        checkVerse(v);
        if (!verses[v].laid || !melody.hasNote(note)) {
            return NONE;
        }
        return verses[v].begun[note];
    }

    public int lies(int v, int k) throws IndexOutOfBoundsException {
        checkVerse(v);
        if (!verses[v].laid || !verses[v].hasSyllable(k)) {
            return NONE;
        }
        return verses[v].noteOf[k];
    }

    public boolean alike(int v, int w, int p) throws IndexOutOfBoundsException {
        checkVerse(v);
        checkVerse(w);
        if (!verses[v].laid || !verses[w].laid || !melody.hasPhrase(p)) {
            return false;
        }
        for (int n = melody.firstOf[p]; n < melody.firstOf[p + 1]; n++) {
            if (verses[v].begun[n] != verses[w].begun[n]) {
                return false;
            }
        }
        return true;
    }

    public int column(int k) throws NoSuchElementException {
        if (!melody.hasNote(k)) {
            throw new NoSuchElementException();
        }
        spacer.space(melody.notes, verses);
        return spacer.columns[k];
    }

    public int row(int v) throws IndexOutOfBoundsException {
        checkVerse(v);
        if (!verses[v].laid) {
            return NONE;
        }
        spacer.space(melody.notes, verses);
        out.writeVerse(verses[v], spacer.columns, melody.notes);
        return out.length;
    }

    public int octet(int k) throws NoSuchElementException {
        if (k < 0 || k >= out.length) {
            throw new NoSuchElementException();
        }
        return out.bytes[k] & 255;
    }

    public int count(int what) {
        switch (what) {
            case 0: return melody.notes;
            case 1: return melody.phrases;
            case 2: return melody.beats;
            case 3: return filledVerses();
            case 4: return laidVerses();
            case 5: return taped;
            case 6: return out.length;
            case 7: return melody.total;
            default: return NONE;
        }
    }

    private void putNumber(int place, int number) {
        for (int i = 0; i < 4; i++) {
            tape[place + i] = (byte) (number >>> (24 - 8 * i));
        }
    }

    private void checkVerse(int v) {
        if (v < 0 || v >= MOST_VERSES) {
            throw new IndexOutOfBoundsException();
        }
    }

    private void dropLayings() {
        for (int v = 0; v < MOST_VERSES; v++) {
            verses[v].laid = false;
        }
    }

    /** Whether there is a tune, and the verse has a line for each of its phrases. */
    private boolean fits(int v) {
        return melody.phrases > 0 && verses[v].lines == melody.phrases;
    }

    private int filledVerses() {
        int filled = 0;
        for (int v = 0; v < MOST_VERSES; v++) {
            if (verses[v].syllables > 0) {
                filled++;
            }
        }
        return filled;
    }

    private int laidVerses() {
        int laid = 0;
        for (int v = 0; v < MOST_VERSES; v++) {
            if (verses[v].laid) {
                laid++;
            }
        }
        return laid;
    }

    private static boolean isBlank(int b) {
        return b == ' ' || b == '\n';
    }

    private static boolean isSmallLetter(int b) {
        return b >= 'a' && b <= 'z';
    }

    private static boolean isDigit(int b) {
        return b >= '0' && b <= '9';
    }

    /** The notes of a tune, with what each is told by; without notes it is no tune. */
    private static final class Tune {
        static final int MOST_NOTES = 60;
        static final int MOST_PHRASES = 12;
        static final int LETTERS = 7;

        int notes;
        int phrases;
        int beats;
        int total;
        final int[] letter = new int[MOST_NOTES];
        final int[] start = new int[MOST_NOTES];
        final int[] lasts = new int[MOST_NOTES];
        final int[] strong = new int[MOST_NOTES];
        final int[] slurPlace = new int[MOST_NOTES];
        final int[] phraseOf = new int[MOST_NOTES];
        final boolean[] behindRest = new boolean[MOST_NOTES];
        /** The first note of each phrase, and one entry more: the note behind the latest phrase. */
        final int[] firstOf = new int[MOST_PHRASES + 1];

        void clear() {
            notes = 0;
            phrases = 0;
            beats = 0;
            total = 0;
        }

        boolean hasNote(int k) {
            return k >= 0 && k < notes;
        }

        boolean hasPhrase(int p) {
            return p >= 0 && p < phrases;
        }

        boolean isFull() {
            return notes >= MOST_NOTES;
        }

        boolean hasAllPhrases() {
            return phrases >= MOST_PHRASES;
        }

        boolean latestPhraseIsEmpty() {
            return phrases == 0 || firstOf[phrases - 1] == notes;
        }

        void openPhrase() {
            if (hasAllPhrases()) {
                return;
            }
            firstOf[phrases] = notes;
            phrases++;
        }

        void addNote(int letterNumber, int length, int placeInSlur, boolean isBehindRest) {
            if (isFull() || phrases == 0) {
                return;
            }
            letter[notes] = letterNumber;
            start[notes] = total;
            lasts[notes] = length;
            strong[notes] = strongAt(total);
            slurPlace[notes] = placeInSlur;
            phraseOf[notes] = phrases - 1;
            behindRest[notes] = isBehindRest;
            total += length;
            notes++;
            firstOf[phrases] = notes;
        }

        private int strongAt(int place) {
            int bar = 4 * beats;
            if (bar == 0 || place % bar == 0) {
                return 3;
            }
            if (beats == 4 && place % 16 == 8) {
                return 2;
            }
            return place % 4 == 0 ? 1 : 0;
        }

        void shiftLetters(int by) {
            for (int k = 0; k < notes; k++) {
                letter[k] = (letter[k] + by) % LETTERS;
            }
        }

        boolean mustBegin(int k) {
            return behindRest[k] || firstOf[phraseOf[k]] == k;
        }

        int tell(int k, int what) {
            switch (what) {
                case 0: return letter[k];
                case 1: return start[k];
                case 2: return lasts[k];
                case 3: return strong[k];
                case 4: return slurPlace[k];
                case 5: return phraseOf[k];
                default: return behindRest[k] ? 1 : 0;
            }
        }
    }

    /** Reads a tape as a tune, token by token, up to the first fault. */
    private static final class TuneReader {
        private static final int MOST_BYTES = 300;
        private static final int LONGEST = 32;
        private static final int BEFORE_BAR = 0;
        private static final int BEHIND_BAR = 1;
        private static final int IN_PHRASE = 2;
        private static final int IN_SLUR = 3;

        /** The kind of the latest reading's fault, 0 without one. */
        int kind;
        private int state;
        private int slurred;
        private boolean behindRest;

        /** Answers the place of the fault, or NONE. */
        int read(byte[] text, int size, Tune into) {
            into.clear();
            kind = 0;
            state = BEFORE_BAR;
            slurred = 0;
            behindRest = false;
            int limit = Math.min(size, MOST_BYTES);
            int behindToken = 0;
            for (int place = 0; place < limit; place++) {
                if (place < behindToken || isBlank(text[place])) {
                    continue;
                }
                behindToken = tokenEnd(text, size, place);
                kind = takeToken(text, place, behindToken, into);
                if (kind != 0) {
                    return place;
                }
            }
            if (size > MOST_BYTES || state != IN_PHRASE || into.latestPhraseIsEmpty()) {
                kind = 1;
                return limit;
            }
            return NONE;
        }

        private static boolean isWordByte(int b) {
            return isSmallLetter(b) || isDigit(b) || b >= 'A' && b <= 'Z';
        }

        /** Looks past the tune's last byte too: a token that begins ahead of it is read whole. */
        private static int tokenEnd(byte[] text, int size, int place) {
            int to = place;
            while (to < size && isWordByte(text[to])) {
                to++;
            }
            return Math.max(to, place + 1);
        }

        private int takeToken(byte[] text, int from, int to, Tune into) {
            switch (text[from]) {
                case ';': return takeSemicolon(into);
                case ',': return takeComma(into);
                case '(': return takeOpening();
                case ')': return takeClosing();
                default: return takeWord(text, from, to, into);
            }
        }

        private int takeSemicolon(Tune into) {
            if (state != BEHIND_BAR) {
                return 1;
            }
            into.openPhrase();
            state = IN_PHRASE;
            return 0;
        }

        private int takeComma(Tune into) {
            if (state != IN_PHRASE || into.latestPhraseIsEmpty()) {
                return 1;
            }
            if (into.hasAllPhrases()) {
                return 3;
            }
            into.openPhrase();
            return 0;
        }

        private int takeOpening() {
            if (state != IN_PHRASE) {
                return 1;
            }
            state = IN_SLUR;
            slurred = 0;
            return 0;
        }

        private int takeClosing() {
            if (state != IN_SLUR || slurred < 2) {
                return 1;
            }
            state = IN_PHRASE;
            return 0;
        }

        private int takeWord(byte[] text, int from, int to, Tune into) {
            int first = text[from];
            int number = numberIn(text, from + 1, to);
            if (number == NONE) {
                return 1;
            }
            if (first == 'm' && to - from == 2) {
                return takeBar(number, into);
            }
            if (first == 'r') {
                return takeRest(number, into);
            }
            if (first >= 'a' && first <= 'g') {
                return takeNote(first - 'a', number, into);
            }
            return 1;
        }

        /** The number that one or two digits make; NONE of anything else. */
        private static int numberIn(byte[] text, int from, int to) {
            if (to - from < 1 || to - from > 2) {
                return NONE;
            }
            int number = 0;
            for (int i = from; i < to; i++) {
                if (!isDigit(text[i])) {
                    return NONE;
                }
                number = 10 * number + text[i] - '0';
            }
            return number;
        }

        private int takeBar(int beats, Tune into) {
            if (state != BEFORE_BAR) {
                return 1;
            }
            if (beats < 2 || beats > 6) {
                return 2;
            }
            into.beats = beats;
            state = BEHIND_BAR;
            return 0;
        }

        private int takeRest(int length, Tune into) {
            if (state != IN_PHRASE) {
                return 1;
            }
            if (length < 1 || length > LONGEST) {
                return 2;
            }
            into.total += length;
            behindRest = true;
            return 0;
        }

        private int takeNote(int letter, int length, Tune into) {
            if (state != IN_PHRASE && state != IN_SLUR) {
                return 1;
            }
            if (length < 1 || length > LONGEST) {
                return 2;
            }
            if (into.isFull()) {
                return 3;
            }
            into.addNote(letter, length, state == IN_SLUR ? slurred : NONE, behindRest);
            slurred++;
            behindRest = false;
            return 0;
        }
    }

    /** The syllables of a verse, its pins and, while it is laid, where each syllable begins. */
    private static final class Verse {
        static final int MOST_BYTES = 400;
        static final int MOST_SYLLABLES = 80;
        static final int MOST_LINES = 12;
        static final int MOST_LETTERS = 10;

        int syllables;
        int lines;
        int words;
        boolean laid;
        private int lettersKept;
        /** All letters, without what stands between the syllables. */
        final byte[] letters = new byte[MOST_BYTES];
        final int[] firstLetter = new int[MOST_SYLLABLES];
        final int[] size = new int[MOST_SYLLABLES];
        final boolean[] stressed = new boolean[MOST_SYLLABLES];
        final int[] lineOf = new int[MOST_SYLLABLES];
        final int[] wordOf = new int[MOST_SYLLABLES];
        final int[] pinOf = new int[MOST_SYLLABLES];
        final int[] noteOf = new int[MOST_SYLLABLES];
        /** The first syllable of each line, and one entry more: the syllable behind the latest line. */
        final int[] firstOf = new int[MOST_LINES + 1];
        final int[] begun = new int[Tune.MOST_NOTES];
        final int[] lineCost = new int[MOST_LINES];

        void clear() {
            syllables = 0;
            lines = 0;
            words = 0;
            laid = false;
            lettersKept = 0;
        }

        boolean hasSyllable(int k) {
            return k >= 0 && k < syllables;
        }

        boolean isFull() {
            return syllables >= MOST_SYLLABLES;
        }

        boolean hasAllLines() {
            return lines >= MOST_LINES;
        }

        void openLine() {
            if (hasAllLines()) {
                return;
            }
            firstOf[lines] = syllables;
            lines++;
        }

        void addSyllable(boolean isStressed, boolean opensWord) {
            if (isFull() || lines == 0) {
                return;
            }
            if (opensWord) {
                words++;
            }
            firstLetter[syllables] = lettersKept;
            size[syllables] = 0;
            stressed[syllables] = isStressed;
            lineOf[syllables] = lines - 1;
            wordOf[syllables] = words - 1;
            pinOf[syllables] = NONE;
            syllables++;
            firstOf[lines] = syllables;
        }

        boolean latestIsFull() {
            return syllables == 0 || size[syllables - 1] >= MOST_LETTERS;
        }

        void addLetter(int b) {
            if (syllables == 0 || lettersKept >= MOST_BYTES) {
                return;
            }
            letters[lettersKept] = (byte) b;
            lettersKept++;
            size[syllables - 1]++;
        }

        void dropPins() {
            for (int k = 0; k < syllables; k++) {
                pinOf[k] = NONE;
            }
        }

        boolean setPin(int k, int note) {
            if (!hasSyllable(k) || pinOf[k] == note) {
                return false;
            }
            pinOf[k] = note;
            laid = false;
            return true;
        }

        boolean mayBeginOn(int k, int note) {
            return pinOf[k] == NONE || pinOf[k] == note;
        }

        /** Whether syllable k goes on with the word of the one ahead of it. */
        boolean continuesWord(int k) {
            return k > 0 && wordOf[k] == wordOf[k - 1];
        }

        int tell(int k, int what) {
            switch (what) {
                case 0: return size[k];
                case 1: return stressed[k] ? 1 : 0;
                case 2: return lineOf[k];
                case 3: return wordOf[k];
                default: return pinOf[k];
            }
        }
    }

    /** Reads a tape as a verse, byte by byte, up to the first fault. */
    private static final class VerseReader {
        private static final int LINE_START = 0;
        private static final int BEHIND_STRESS = 1;
        private static final int IN_SYLLABLE = 2;
        private static final int BEHIND_HYPHEN = 3;
        private static final int BEHIND_WORD = 4;

        /** The kind of the latest reading's fault, 0 without one. */
        int kind;
        private int state;

        /** Answers the place of the fault, or NONE. */
        int read(byte[] text, int size, Verse into) {
            into.clear();
            kind = 0;
            state = LINE_START;
            int limit = Math.min(size, Verse.MOST_BYTES);
            for (int place = 0; place < limit; place++) {
                kind = takeByte(text[place], into);
                if (kind != 0) {
                    return place;
                }
            }
            if (size > Verse.MOST_BYTES || !wordMayEnd()) {
                kind = 1;
                return limit;
            }
            return NONE;
        }

        private boolean wordMayEnd() {
            return state == IN_SYLLABLE || state == BEHIND_WORD;
        }

        private int takeByte(int b, Verse into) {
            if (isSmallLetter(b)) {
                return takeLetter(b, into);
            }
            if (isBlank(b)) {
                return takeBlank();
            }
            switch (b) {
                case '\'': return takeStress(into);
                case '-': return takeHyphen();
                case '/': return takeSlash(into);
                default: return 1;
            }
        }

        private int takeLetter(int b, Verse into) {
            if (state == IN_SYLLABLE) {
                if (into.latestIsFull()) {
                    return 2;
                }
            } else if (state != BEHIND_STRESS) {
                if (into.isFull()) {
                    return 3;
                }
                openSyllable(false, into);
            }
            into.addLetter(b);
            state = IN_SYLLABLE;
            return 0;
        }

        private int takeStress(Verse into) {
            if (state == IN_SYLLABLE || state == BEHIND_STRESS) {
                return 1;
            }
            if (into.isFull()) {
                return 3;
            }
            openSyllable(true, into);
            state = BEHIND_STRESS;
            return 0;
        }

        private void openSyllable(boolean isStressed, Verse into) {
            if (state == LINE_START) {
                into.openLine();
            }
            into.addSyllable(isStressed, state != BEHIND_HYPHEN);
        }

        private int takeBlank() {
            if (state == BEHIND_STRESS || state == BEHIND_HYPHEN) {
                return 1;
            }
            if (state == IN_SYLLABLE) {
                state = BEHIND_WORD;
            }
            return 0;
        }

        private int takeHyphen() {
            if (state != IN_SYLLABLE) {
                return 1;
            }
            state = BEHIND_HYPHEN;
            return 0;
        }

        private int takeSlash(Verse into) {
            if (!wordMayEnd()) {
                return 1;
            }
            if (into.hasAllLines()) {
                return 3;
            }
            state = LINE_START;
            return 0;
        }
    }

    /** Lays lines to phrases: what each way costs, the least of them, and how many there are. */
    private static final class Layer {
        private static final int WIDTH = Verse.MOST_SYLLABLES + 1;
        private static final int DEAREST = 1000;
        private static final int MOST_ON_NOTE = 2;
        private static final long MANY = 1000000000000000L;

        private final int[] prices = {4, 1, 3, 5, 6};
        /** At n * WIDTH + s: the least cost of the line's syllables from s on, on the notes from n on; NONE: no way. */
        private final int[] least = new int[(Tune.MOST_NOTES + 1) * WIDTH];
        private final long[] counted = new long[WIDTH];

        boolean setPrice(int k, int c) {
            if (k < 0 || k >= prices.length || c < 0 || c > DEAREST) {
                return false;
            }
            prices[k] = c;
            return true;
        }

        /** Takes a verse that has a line for each phrase; answers its cost, or NONE. */
        int layVerse(Tune tune, Verse verse) {
            verse.laid = false;
            int sum = 0;
            for (int line = 0; line < verse.lines; line++) {
                weighLine(tune, verse, line);
                if (least[0] == NONE) {
                    return NONE;
                }
                verse.lineCost[line] = least[0];
                sum += least[0];
                placeLine(tune, verse, line);
            }
            verse.laid = true;
            return sum;
        }

        long countWays(Tune tune, Verse verse, int line, boolean best) {
            weighLine(tune, verse, line);
            int notes = tune.firstOf[line + 1] - tune.firstOf[line];
            int syllables = verse.firstOf[line + 1] - verse.firstOf[line];
            for (int s = 0; s <= syllables; s++) {
                counted[s] = s == syllables ? 1 : 0;
            }
            for (int n = notes - 1; n >= 0; n--) {
                // A count needs only those of the next note for s and above, so one row, going up, is enough.
                for (int s = 0; s <= syllables; s++) {
                    counted[s] = waysFrom(tune, verse, line, n, s, best);
                }
            }
            return counted[0];
        }

        private long waysFrom(Tune tune, Verse verse, int line, int n, int s, boolean best) {
            long sum = 0;
            for (int begin = 0; begin <= MOST_ON_NOTE; begin++) {
                int whole = costThrough(tune, verse, line, n, s, begin);
                if (whole != NONE && (!best || whole == least[n * WIDTH + s])) {
                    sum += counted[s + begin];
                }
            }
            return Math.min(sum, MANY);
        }

        private void weighLine(Tune tune, Verse verse, int line) {
            int notes = tune.firstOf[line + 1] - tune.firstOf[line];
            int syllables = verse.firstOf[line + 1] - verse.firstOf[line];
            for (int s = 0; s <= syllables; s++) {
                least[notes * WIDTH + s] = s == syllables ? 0 : NONE;
            }
            for (int n = notes - 1; n >= 0; n--) {
                for (int s = 0; s <= syllables; s++) {
                    least[n * WIDTH + s] = leastFrom(tune, verse, line, n, s);
                }
            }
        }

        private int leastFrom(Tune tune, Verse verse, int line, int n, int s) {
            int found = NONE;
            for (int begin = 0; begin <= MOST_ON_NOTE; begin++) {
                int whole = costThrough(tune, verse, line, n, s, begin);
                if (whole != NONE && (found == NONE || whole < found)) {
                    found = whole;
                }
            }
            return found;
        }

        /** The least cost from note n and syllable s on if so many begin on n; NONE: no way. */
        private int costThrough(Tune tune, Verse verse, int line, int n, int s, int begin) {
            if (s + begin > verse.firstOf[line + 1] - verse.firstOf[line]) {
                return NONE;
            }
            int behind = least[(n + 1) * WIDTH + s + begin];
            if (behind == NONE) {
                return NONE;
            }
            int here = costOn(tune, verse, tune.firstOf[line] + n, verse.firstOf[line] + s, begin);
            return here == NONE ? NONE : here + behind;
        }

        private int costOn(Tune tune, Verse verse, int note, int syllable, int begin) {
            if (begin == 0) {
                return tune.mustBegin(note) ? NONE : heldCost(tune.slurPlace[note]);
            }
            int sum = begin == MOST_ON_NOTE ? prices[4] : 0;
            if (tune.slurPlace[note] > 0) {
                sum += prices[3];
            }
            for (int k = syllable; k < syllable + begin; k++) {
                if (!verse.mayBeginOn(k, note)) {
                    return NONE;
                }
                sum += verse.stressed[k] ? prices[0] * (3 - tune.strong[note]) : prices[1] * tune.strong[note];
            }
            return sum;
        }

        private int heldCost(int slurPlace) {
            return slurPlace > 0 ? 0 : prices[2];
        }

        /** Goes by the weighed costs; the fewest that keep the least cost make the first of like layings. */
        private void placeLine(Tune tune, Verse verse, int line) {
            int notes = tune.firstOf[line + 1] - tune.firstOf[line];
            int s = 0;
            for (int n = 0; n < notes; n++) {
                int note = tune.firstOf[line] + n;
                int begin = fewestAtLeastCost(tune, verse, line, n, s);
                verse.begun[note] = begin;
                for (int i = 0; i < begin; i++) {
                    verse.noteOf[verse.firstOf[line] + s + i] = note;
                }
                s += begin;
            }
        }

        private int fewestAtLeastCost(Tune tune, Verse verse, int line, int n, int s) {
            for (int begin = 0; begin < MOST_ON_NOTE; begin++) {
                int whole = costThrough(tune, verse, line, n, s, begin);
                if (whole != NONE && whole == least[n * WIDTH + s]) {
                    return begin;
                }
            }
            return MOST_ON_NOTE;
        }
    }

    /** Sets the notes apart so that the words of all laid verses have room. */
    private static final class Spacer {
        private static final int LEAST_STEP = 3;

        final int[] columns = new int[Tune.MOST_NOTES];
        /** Of each verse: the first syllable that is not written yet, and the end of the one ahead of it. */
        private final int[] next = new int[MOST_VERSES];
        private final int[] ends = new int[MOST_VERSES];

        void space(int notes, Verse[] verses) {
            for (int v = 0; v < MOST_VERSES; v++) {
                next[v] = 0;
                ends[v] = 0;
            }
            for (int note = 0; note < notes; note++) {
                int column = note == 0 ? 0 : columns[note - 1] + LEAST_STEP;
                for (int v = 0; v < MOST_VERSES; v++) {
                    column = Math.max(column, leastColumn(v, verses[v], note));
                }
                columns[note] = column;
                for (int v = 0; v < MOST_VERSES; v++) {
                    writeOn(v, verses[v], note);
                }
            }
        }

        private int leastColumn(int v, Verse verse, int note) {
            if (!verse.laid || verse.begun[note] == 0 || next[v] == 0) {
                return 0;
            }
            return ends[v] + (verse.continuesWord(next[v]) ? 2 : 1);
        }

        private void writeOn(int v, Verse verse, int note) {
            if (!verse.laid) {
                return;
            }
            for (int i = 0; i < verse.begun[note] && verse.hasSyllable(next[v]); i++) {
                int from = i == 0 ? columns[note] : ends[v] + 1;
                ends[v] = from + verse.size[next[v]];
                next[v]++;
            }
        }
    }

    /** OUT: a row of bytes, written from left to right. */
    private static final class Sheet {
        /** Two syllables of ten letters, what parts them and a hyphen's room on each note. */
        private static final int MOST_BYTES = Tune.MOST_NOTES * 23;
        private static final int PLACES_PER_HYPHEN = 10;

        int length;
        final byte[] bytes = new byte[MOST_BYTES];

        void writeVerse(Verse verse, int[] columns, int notes) {
            length = 0;
            for (int k = 0; k < verse.syllables; k++) {
                padTo(columns[verse.noteOf[k]]);
                for (int i = 0; i < verse.size[k]; i++) {
                    append(verse.letters[verse.firstLetter[k] + i]);
                }
                drawBehind(verse, k, columns, notes);
            }
        }

        /** Draws what stands between syllable k, whose end the row has reached, and the next one. */
        private void drawBehind(Verse verse, int k, int[] columns, int notes) {
            boolean isLast = k + 1 >= verse.syllables;
            int nextNote = isLast ? notes : verse.noteOf[k + 1];
            if (nextNote == verse.noteOf[k]) {
                append('_');
            } else if (!isLast && verse.continuesWord(k + 1)) {
                drawHyphens(columns[nextNote]);
            } else {
                // No syllable begins up to the next one's note, so this one is held on all between;
                // the column of its own note, if it is not held, lies ahead of its end and draws nothing.
                drawLine(columns[nextNote - 1]);
            }
        }

        private void drawHyphens(int nextColumn) {
            int from = length;
            int gap = nextColumn - from;
            if (gap < 1) {
                return;
            }
            int hyphens = 1 + (gap - 1) / PLACES_PER_HYPHEN;
            for (int j = 0; j < hyphens; j++) {
                padTo(from + gap * (2 * j + 1) / (2 * hyphens));
                append('-');
            }
        }

        private void drawLine(int lastColumn) {
            int from = length + 1;
            for (int place = from; place <= lastColumn; place++) {
                padTo(place);
                append('_');
            }
        }

        private void padTo(int place) {
            for (int at = length; at < place; at++) {
                append(' ');
            }
        }

        private void append(int b) {
            if (length < MOST_BYTES) {
                bytes[length] = (byte) b;
                length++;
            }
        }
    }
}
