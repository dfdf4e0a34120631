/** Each sentence of promises 1 to 3 and 21, and of an object's 512 calls, that names an edge. */
public final class CallEdgeTest {
    private static final int[] FAR = {Integer.MIN_VALUE, Integer.MAX_VALUE};

    public static void main(String[] args) {
        newObject();
        newCosts();
        objectsApart();
        feedsUpToFull();
        placesOfFedBytes();
        ends();
        endsKeepTheFirst();
        countsOfTheTune();
        countsOfVerses();
        countsOfBytes();
        otherCounts();
        lastOf512();
        Checks.finish();
    }

    private static void newObject() {
        Checks.sentence("No TUNE, VERSES; COSTS as told; an empty tape, OUT.");
        SungWords x = new SungWords();
        for (int what = 0; what <= 7; what++) {
            Checks.same("count(" + what + ")", x.count(what), 0);
        }
        Checks.same("fault", x.fault(), 0);
        Checks.noSuchElement("note", () -> x.note(0, 0));
        Checks.noSuchElement("column", () -> x.column(0));
        Checks.noSuchElement("octet", () -> x.octet(0));
        for (int v = 0; v < 4; v++) {
            int verse = v;
            Checks.noSuchElement("syllable", () -> x.syllable(verse, 0, 0));
            Checks.noSuchElement("cost", () -> x.cost(verse, 0));
            Checks.same("pin", x.pin(v, 0, 0) || x.pin(v, 0, -1), false);
            Checks.same("lay", x.lay(v), -1);
            Checks.same("ways", x.ways(v, 0, false) + x.ways(v, 0, true), -2);
            Checks.same("begins", x.begins(v, 0), -1);
            Checks.same("lies", x.lies(v, 0), -1);
            Checks.same("alike", x.alike(v, v, 0), false);
            Checks.same("row", x.row(v), -1);
        }
        Checks.same("transpose", x.transpose(1), 0);
        Checks.same("end(0)", x.end(0), true);
        Checks.same("end(1)", x.end(1), false);
        Checks.same("tune of nothing", x.tune(), -1);
        Checks.same("verse of nothing", x.verse(0), -1);
        Checks.same("the first feed", x.feed(0, 0, 0, 0, 0), 20);
    }

    private static void newCosts() {
        Checks.sentence("(COSTS 0 to 4 are 4, 1, 3, 5, 6 at first.)");
        SungWords x = Checks.with("m4;r1 c15,d16,e16 f16,(g16 a16),b16", "'a/b/'c/'d 'e/'f 'g");
        x.pin(0, 4, 5);
        Checks.same("lay", x.lay(0), 3 * 4 + 3 * 1 + 3 + 5 + 6);
        int[] due = {3 * 4, 3 * 1, 3, 5, 6};
        for (int p = 0; p < 5; p++) {
            Checks.same("cost " + p, x.cost(0, p), due[p]);
        }
    }

    private static void objectsApart() {
        SungWords one = Checks.with("m4;c4", "a");
        one.price(1, 9);
        one.lay(0);
        one.row(0);
        Checks.feed(one, "abc");
        SungWords other = new SungWords();
        for (int what = 0; what <= 7; what++) {
            Checks.same("another object's count(" + what + ")", other.count(what), 0);
        }
        Checks.tune(other, "m4;d4,e4");
        Checks.same("the first one's notes", one.count(0), 1);
        Checks.same("the first one's tape", one.count(5), 3);
        Checks.verse(other, 0, "a/b");
        Checks.same("the other's costs", other.lay(0), 3 + 1);
    }

    private static void feedsUpToFull() {
        Checks.sentence("how many it has; NONE, and none come, if it would have more than 440.");
        for (int first = 0; first <= 20; first++) {
            SungWords x = new SungWords();
            x.feed(0, 0, 0, 0, 0);
            x.end(first);
            int bytes = first;
            for (; bytes + 20 <= 440; bytes += 20) {
                Checks.same("feed behind " + bytes, x.feed(0, 0, 0, 0, 0), bytes + 20);
            }
            Checks.same("feed behind " + bytes, x.feed(0, 0, 0, 0, 0), -1);
            Checks.same("again", x.feed(-1, -1, -1, -1, -1), -1);
            Checks.same("tape", x.count(5), bytes);
            Checks.same("fewer", x.end(420), true);
            Checks.same("room again", x.feed(0, 0, 0, 0, 0), 440);
        }
    }

    private static void placesOfFedBytes() {
        Checks.sentence("Twenty bytes come behind the tape, of each number the highest first");
        for (int behind : new int[] {0, 1, 19, 20, 380}) {
            for (int place = 0; place < 20; place++) {
                for (int wrong : new int[] {0, 1, 127, 128, 225, 255}) {
                    badByteAt(behind, place, wrong);
                }
            }
        }
        SungWords x = Checks.with("m4;c16 d16");
        x.feed(0x61626364, 0x65666768, 0x692D6A6B, 0x6C6D6E6F, 0x70717273);
        Checks.same("20 bytes", x.verse(0), 2);
        x.pin(0, 1, 1);
        x.lay(0);
        Checks.same("in their order", Checks.row(x, 0), "abcdefghi -jklmnopqrs");
    }

    /** One byte of twenty is none that may come, so that its place is told. */
    private static void badByteAt(int behind, int place, int wrong) {
        SungWords x = new SungWords();
        Checks.feed(x, "a".repeat(Math.min(behind, 1)) + " ".repeat(Math.max(0, behind - 1)));
        int[] numbers = {0x20202020, 0x20202020, 0x20202020, 0x20202020, 0x20202020};
        int shift = 24 - 8 * (place % 4);
        numbers[place / 4] = numbers[place / 4] & ~(255 << shift) | wrong << shift;
        Checks.same("feed", x.feed(numbers[0], numbers[1], numbers[2], numbers[3], numbers[4]), behind + 20);
        Checks.same(wrong + " at " + behind + " and " + place, x.verse(0), -1 - behind - place);
        Checks.same("its kind", x.fault(), 1);
    }

    private static void ends() {
        Checks.sentence("The tape has its first n bytes alone: true; false, if it has not so many, or n is below 0.");
        for (int feeds : new int[] {0, 1, 2, 22}) {
            for (int n = -2; n <= 442; n++) {
                SungWords x = new SungWords();
                for (int i = 0; i < feeds; i++) {
                    x.feed(0, 0, 0, 0, 0);
                }
                boolean due = n >= 0 && n <= 20 * feeds;
                Checks.same("end(" + n + ") of " + 20 * feeds, x.end(n), due);
                Checks.same("bytes then", x.count(5), due ? n : 20 * feeds);
            }
            SungWords x = new SungWords();
            Checks.same("the least", x.end(FAR[0]), false);
            Checks.same("the most", x.end(FAR[1]), false);
        }
        SungWords x = new SungWords();
        x.feed(0, 0, 0, 0, 0);
        Checks.same("to 3", x.end(3), true);
        Checks.same("what went does not come back", x.end(4), false);
        Checks.same("to 3 again", x.end(3), true);
        Checks.same("to none", x.end(0), true);
        Checks.same("none to 1", x.end(1), false);
    }

    private static void endsKeepTheFirst() {
        Checks.sentence("The tape has its first n bytes alone");
        String text = "abcdefghij klm-nop 'q";
        int[] due = {-1, 1, 1, 1, 1, 1, 1, 1, 1, 1, 1, 1, 2, 2, 2, -16, 3, 3, 3, 3, -21, 4};
        for (int n = 0; n <= 21; n++) {
            SungWords x = new SungWords();
            Checks.feed(x, text);
            x.end(n);
            Checks.same("the first " + n, x.verse(0), due[n]);
            Checks.feed(x, text);
            x.end(n);
            Checks.feed(x, "/z");
            Checks.same("and more behind the first " + n, x.verse(0), moreBehind(n, due[n]));
        }
    }

    /** A further line's syllable, if the text ahead of it may end there; else the / can't come. */
    private static int moreBehind(int n, int due) {
        return due > 0 ? due + 1 : -1 - n;
    }

    private static void countsOfTheTune() {
        Checks.sentence("0 NOTES, 1 PHRASES, 2 BEATS (0 without a TUNE)");
        Checks.sentence("7 the sum of all LENGTHS, RESTS, too.");
        SungWords x = new SungWords();
        tuneCounts(x, 0, 0, 0, 0);
        Checks.tune(x, "m2;c1");
        tuneCounts(x, 1, 1, 2, 1);
        Checks.tune(x, "m6;r32 c32 r32");
        tuneCounts(x, 1, 1, 6, 96);
        Checks.tune(x, "m3;c1 (d2 e3) r4,f5 r6");
        tuneCounts(x, 4, 2, 3, 21);
        Checks.tune(x, "m5;c1,d1,");
        tuneCounts(x, 4, 2, 3, 21);
        Checks.tune(x, "m5;c1" + ",c1".repeat(11));
        tuneCounts(x, 12, 12, 5, 12);
        Checks.tune(x, "m4;" + "c32 ".repeat(60) + "r1");
        tuneCounts(x, 60, 1, 4, 60 * 32 + 1);
    }

    private static void tuneCounts(SungWords x, int notes, int phrases, int beats, int sum) {
        Checks.same("notes", x.count(0), notes);
        Checks.same("phrases", x.count(1), phrases);
        Checks.same("beats", x.count(2), beats);
        Checks.same("sum of lengths", x.count(7), sum);
    }

    private static void countsOfVerses() {
        Checks.sentence("3 VERSES with SYLLABLES, 4 VERSES LAID");
        SungWords x = Checks.with("m4;c4");
        for (int v = 3; v >= 0; v--) {
            Checks.same("with syllables", x.count(3), 3 - v);
            Checks.same("laid", x.count(4), 3 - v);
            Checks.verse(x, v, "a");
            Checks.same("with syllables", x.count(3), 4 - v);
            Checks.same("laid", x.count(4), 3 - v);
            Checks.verse(x, v, "");
            Checks.same("behind a faulty one", x.count(3), 4 - v);
            x.lay(v);
        }
        Checks.same("laid", x.count(4), 4);
        x.lay(0);
        Checks.same("laid again", x.count(4), 4);
        Checks.verse(x, 2, "b");
        Checks.same("one anew", x.count(4), 3);
        Checks.same("with syllables", x.count(3), 4);
        x.pin(3, 0, 0);
        Checks.same("one pinned", x.count(4), 2);
        x.price(0, 0);
        Checks.same("a price", x.count(4), 0);
        x.lay(1);
        Checks.tune(x, "m4;c4");
        Checks.same("a tune", x.count(4), 0);
        Checks.same("with syllables", x.count(3), 4);
    }

    private static void countsOfBytes() {
        Checks.sentence("5 bytes of the tape, 6 of OUT");
        SungWords x = Checks.with("m4;c16 d16", "'a 'bc", "'d");
        Checks.same("an empty tape", x.count(5), 0);
        Checks.same("an empty OUT", x.count(6), 0);
        x.lay(0);
        x.lay(1);
        Checks.same("a laying is no row", x.count(6), 0);
        x.row(0);
        Checks.same("a row", x.count(6), 5);
        x.row(2);
        Checks.same("no row", x.count(6), 5);
        x.row(1);
        Checks.same("a shorter row", x.count(6), 4);
        x.feed(0, 0, 0, 0, 0);
        Checks.same("a tape", x.count(5), 20);
        Checks.same("OUT stays", x.count(6), 4);
    }

    private static void otherCounts() {
        Checks.sentence("NONE for another what.");
        SungWords x = Checks.with("m4;c16", "a");
        for (int what : new int[] {-2, -1, 8, 9, FAR[0], FAR[1]}) {
            Checks.same("count(" + what + ")", x.count(what), -1);
        }
        Checks.same("count(0)", x.count(0), 1);
        Checks.same("count(7)", x.count(7), 16);
    }

    private static void lastOf512() {
        Checks.sentence("An object is used for at most 512 calls after it has been made");
        SungWords x = new SungWords();
        int calls = 0;
        for (int i = 0; i < 127; i++) {
            // A tune of one note and a verse of one syllable, read by four calls, over and over.
            x.feed(0x6D343B63, 0x34202020, 0x20202020, 0x20202020, 0x20202020);
            Checks.same("tune", x.tune(), 1);
            x.feed(0x61626320, 0x20202020, 0x20202020, 0x20202020, 0x20202020);
            Checks.same("verse", x.verse(i % 4), 1);
            calls += 4;
        }
        Checks.same("lay", x.lay(2), 3);
        Checks.same("ways", x.ways(2, 0, true), 1);
        Checks.same("row", x.row(2), 3);
        Checks.same("the 512th call", x.octet(2), 'c');
        Checks.same("calls", calls + 4, 512);
    }
}
