import java.util.Arrays;
import java.util.function.Consumer;

/**
 * The sentences of "What it is" and "Terms" that name a boundary: each has a test of its own, at the
 * boundary and just beyond it. Those that 512 calls do not reach stand in LimitsTest.
 */
final class TermsTest {
    private static final int NONE = MirrorLog.NONE;
    private static final int FULL = MirrorLog.FULL;
    private static final int MONTH = 2_592_000;
    private static final int LAST = 1_000_000_000;
    private static final Check CHECK = new Check();

    public static void main(String[] args) {
        calls();
        rowsAndFiles();
        forms();
        good();
        opening();
        crashAndMoved();
        CHECK.finish("TermsTest");
    }

    private static void holds(String sentence, Consumer<Sentence> test) {
        Sentence.holds(CHECK, sentence, test);
    }

    private static void calls() {
        holds("An object is used for at most 512 calls after it has been made", TermsTest::call512);
    }

    private static void rowsAndFiles() {
        holds("FILES have numbers 0 and 1", TermsTest::fileNumbers);
        holds("ROWS have numbers from 0 on", TermsTest::rowNumbers);
        holds("a second (0 .. 1,000,000,000)", TermsTest::seconds);
        holds("a second (0 .. 1,000,000,000), in a file", TermsTest::secondsInAFile);
        holds("1 to 64 bytes of contents", TermsTest::contents);
        holds("1 to 64 bytes of contents, in a file", TermsTest::contentsInAFile);
        holds("Rows whose seconds lie in the same 2,592,000 are of one MONTH", TermsTest::sameMonth);
        holds("month m has seconds 2,592,000 * m on", TermsTest::firstSecondOfAMonth);
    }

    private static void forms() {
        holds("A ROW IN A FILE: the number of its contents (one byte)", TermsTest::numberOfContents);
        holds("its second (four bytes, the highest first)", TermsTest::bytesOfSeconds);
        holds("its number (two bytes, the higher first)", TermsTest::bytesOfNumbers);
        holds("A GROUP are 1 to 16 rows one behind the other", TermsTest::rowsOfAGroup);
        holds("a byte 0, a byte with the number of rows", TermsTest::endOfAGroup);
        holds("a sum of these two bytes that begins with the sum of the last row", TermsTest::sumOfAGroup);
        holds("SUMS: s is 0 at first", TermsTest::sumsBeginWith0);
        holds("turned left by 13, times 0x27D4EB2F (32 bits)", TermsTest::sumsWrapAround);
    }

    private static void good() {
        holds("A group is GOOD when it stands there whole", TermsTest::goodWhenWhole);
        holds("GOOD when it has 1 to 16 rows", TermsTest::goodWith1To16Rows);
        holds("GOOD when all sums are right", TermsTest::goodWhenSumsAreRight);
        holds("GOOD when its rows have the numbers that follow", TermsTest::goodWhenNumbersFollow);
        holds("GOOD with seconds not below the one before", TermsTest::goodWhenSecondsFollow);
        holds("of the group's first row: of the last row known", TermsTest::goodBehindTheLastRowKnown);
        holds("of the last row known, which was moved", TermsTest::goodBehindAMovedRow);
        holds("GOOD when the byte with the number of rows is right", TermsTest::goodWhenRowsAreCounted);
    }

    private static void opening() {
        holds("OPENING goes from the beginning of both files", TermsTest::openingOfEmptyFiles);
        holds("as long as one is good at that place in one of them", TermsTest::openingStops);
        holds("taken from file 0 when it is good there", TermsTest::openingTakesFile0);
        holds("else from file 1", TermsTest::openingTakesFile1);
        holds("PUT RIGHT when the other file does not have the same bytes there", TermsTest::openingPutsRight);
        holds("The rest of both files goes", TermsTest::openingDropsTheRest);
        holds("both have the groups taken, then", TermsTest::openingMakesFilesTheSame);
    }

    private static void crashAndMoved() {
        holds("A CRASH cuts a file", TermsTest::crashCutsOneFile);
        holds("contents not in a row are not known any more", TermsTest::crashDropsContents);
        holds("rows not in a group that has ended are not known any more", TermsTest::crashDropsTheGroup);
        holds("all rows but those that were moved out are not known any more", TermsTest::crashDropsRows);
        holds("the log is SHUT until it is opened again", TermsTest::crashShuts);
        holds("MOVED rows are known always", TermsTest::movedRowsAreKnown);
        holds("MOVED rows stand in no file", TermsTest::movedRowsAreInNoFile);
    }

    private static void call512(Sentence s) {
        Run run = s.log();
        for (int i = 0; i < 169; i++) {
            run.group(i, i);
        }
        run.rows(0, 169).byteAt(168, 0, 168).repaired(0).same(true).reopen(169);
        s.due("the last call is", run.calls(), 512);
        Run fed = s.log();
        for (int i = 0; i < 8; i++) {
            for (int b = 0; b < 63; b++) {
                fed.feed(b, true);
            }
            fed.row(i, i);
        }
        s.due("the last call is", fed.calls(), 512);
    }

    private static void fileNumbers(Sentence s) {
        s.logWith(0).poke(0, 0, 1, true).poke(1, 0, 1, true).poke(-1, 0, 1, false).poke(2, 0, 1, false);
        s.logWith(0).crash(-1, 0, false).crash(2, 0, false).feed(1, true).crash(0, 18, true).crash(1, 18, true);
    }

    private static void rowNumbers(Sentence s) {
        s.log().noRow(0, 0).group(0, 7).byteAt(0, 0, 7).noRow(-1, 0).noRow(1, 0);
        byte[] from0 = new Image().row(0, 0, 100).end().bytes();
        s.logWith(0).forge(0, 0, from0, new Image().row(0, 0, 50).end().bytes()).reopen(1).byteAt(0, 0, 50);
        s.logWith(0).forge(0, 0, from0, new Image().row(1, 0, 50).end().bytes()).reopen(1).byteAt(0, 0, 100);
    }

    private static void seconds(Sentence s) {
        s.log().feed(1, true).row(-1, NONE).row(0, 0).endGroup(true).rows(0, 1);
        s.log().feed(1, true).row(LAST + 1, NONE).row(LAST, 0).endGroup(true).rows(LAST / MONTH, 1).reopen(1);
        s.log().feed(1, true).row(Integer.MIN_VALUE, NONE).row(Integer.MAX_VALUE, NONE).row(1, 0);
    }

    /** Opens a log whose only group, in both files, was forged to have this second. */
    private static void openSecond(Sentence s, int second, int due) {
        byte[] old = new Image().row(0, 5, 100).end().bytes();
        s.logWith(5).forgeBoth(old, new Image().row(0, second, 100).end().bytes()).reopen(due);
    }

    private static void secondsInAFile(Sentence s) {
        openSecond(s, 0, 1);
        openSecond(s, -1, 0);
        openSecond(s, LAST, 1);
        openSecond(s, LAST + 1, 0);
        openSecond(s, Integer.MAX_VALUE, 0);
        openSecond(s, Integer.MIN_VALUE, 0);
    }

    private static void contents(Sentence s) {
        s.log().row(0, NONE).feed(9, true).row(0, 0).endGroup(true).byteAt(0, 0, 9).byteAt(0, 1, NONE);
        Run most = s.log();
        for (int i = 0; i < 64; i++) {
            most.feed(200 + i % 50, true);
        }
        most.feed(1, false).row(0, 0).endGroup(true).byteAt(0, 63, 213).byteAt(0, 64, NONE);
        most.reopen(1).byteAt(0, 63, 213).byteAt(0, 64, NONE);
    }

    /** Opens a log with two rows, forged so that the first has so many contents. */
    private static void openContents(Sentence s, int length, int due) {
        int[] first = new int[40];
        int[] second = new int[40];
        byte[] old = new Image().row(0, 1, first).row(1, 1, second).end().bytes();
        int[] rest = new int[80 - length];
        byte[] wanted = new Image().row(0, 1, new int[length]).row(1, 1, rest).end().bytes();
        s.log().put(1, 0, first).put(1, 1, second).endGroup(true).crash(1, 0, true).forge(0, 0, old, wanted)
            .reopen(due).badAt(due == 0 ? 0 : NONE);
    }

    private static void contentsInAFile(Sentence s) {
        openContents(s, 40, 2);
        openContents(s, 64, 2);
        openContents(s, 65, 0);
        openContents(s, 16, 2);
        openContents(s, 15, 0);
        openContents(s, 79, 0);
        // 12 contents, forged to be a row of one byte and a row of none.
        byte[] old = new Image().row(0, 1, new int[12]).end().bytes();
        byte[] wanted = new Image().row(0, 1, 7).row(1, 1).end().bytes();
        s.log().group(1, new int[12]).forgeBoth(old, wanted).reopen(0).badAt(0);
        byte[] turned = new Image().row(0, 1).row(1, 1, 7).end().bytes();
        s.log().group(1, new int[12]).forgeBoth(old, turned).reopen(0).badAt(0);
    }

    private static void sameMonth(Sentence s) {
        Run run = s.log().put(0, 0, 1).put(MONTH - 1, 1, 2).put(MONTH, 2, 3).put(2 * MONTH - 1, 3, 4);
        run.put(2 * MONTH, 4, 5).endGroup(true).rows(0, 2).rows(1, 2).rows(2, 1).rows(3, 0).rows(-1, 0);
    }

    private static void firstSecondOfAMonth(Sentence s) {
        Run run = s.log().put(385 * MONTH - 1, 0, 1).put(385 * MONTH, 1, 2).put(LAST, 2, 3).endGroup(true);
        run.rows(383, 0).rows(384, 1).rows(385, 2).rows(386, 0);
        s.logWith(MONTH - 1, MONTH).move(0, true).sizes(18).move(0, false).move(1, true).sizes(0);
    }

    private static int[] counted(int length) {
        int[] contents = new int[length];
        for (int i = 0; i < length; i++) {
            contents[i] = (i * 7 + length) & 255;
        }
        return contents;
    }

    private static void numberOfContents(Sentence s) {
        for (int length : new int[] {1, 2, 63, 64}) {
            int[] contents = counted(length);
            byte[] old = new Image().row(0, 3, contents).end().bytes();
            contents[length - 1] ^= 255;
            byte[] wanted = new Image().row(0, 3, contents).end().bytes();
            s.log().group(3, counted(length)).sizes(length + 17).forge(0, 0, old, wanted).reopen(1)
                .byteAt(0, length - 1, contents[length - 1]).byteAt(0, length, NONE).repaired(1);
        }
    }

    private static void bytesOfSeconds(Sentence s) {
        for (int second : new int[] {0, 255, 256, 65_535, 65_536, 16_777_215, 16_777_216, 0x01020304, LAST}) {
            byte[] old = new Image().row(0, second, 100).end().bytes();
            byte[] wanted = new Image().row(0, second, 50).end().bytes();
            s.logWith(second).forge(0, 0, old, wanted).reopen(1).byteAt(0, 0, 50).rows(second / MONTH, 1);
        }
        byte[] low = new Image().row(0, 255, 100).end().bytes();
        byte[] high = new Image().row(0, 256 * 256 * 255, 100).end().bytes();
        s.logWith(255).forge(0, 0, low, high).reopen(1).rows(0, 0).rows(256 * 256 * 255 / MONTH, 1);
    }

    private static void bytesOfNumbers(Sentence s) {
        byte[] old = new Image().row(0, 1, 100).end().row(1, 1, 101).end().bytes();
        byte[] right = new Image().row(0, 1, 100).end().row(1, 1, 50).end().bytes();
        byte[] turned = new Image().row(0, 1, 100).end().row(256, 1, 50).end().bytes();
        byte[] beyond = new Image().row(0, 1, 100).end().row(257, 1, 50).end().bytes();
        s.logWith(1, 1).forgeBoth(old, right).reopen(2).byteAt(1, 0, 50);
        s.logWith(1, 1).forgeBoth(old, turned).reopen(1).badAt(18);
        s.logWith(1, 1).forgeBoth(old, beyond).reopen(1).badAt(18);
    }

    private static void rowsOfAGroup(Sentence s) {
        s.log().endGroup(false).sizes(0).groupOf(1, 5).sizes(18);
        s.log().groupOf(16, 5).sizes(16 * 12 + 6).reopen(16);
        Run run = s.log();
        for (int r = 0; r < 16; r++) {
            run.put(5, r, r);
        }
        run.feed(1, true).row(5, FULL).endGroup(true).rows(0, 16).sizes(16 * 12 + 6);
    }

    private static void endOfAGroup(Sentence s) {
        byte[] old = new Image().row(0, 1, 0).row(1, 1, 1).end().bytes();
        s.log().groupOf(2, 1).forgeBoth(old, new Image().row(0, 1, 9).row(1, 1, 8).end(0, 2).bytes()).reopen(2);
        s.log().groupOf(2, 1).forgeBoth(old, new Image().row(0, 1, 9).row(1, 1, 8).end(1, 2).bytes()).reopen(0);
        Image full = new Image();
        Image marked = new Image();
        for (int r = 0; r < 16; r++) {
            full.row(r, 1, r);
            marked.row(r, 1, r);
        }
        s.log().groupOf(16, 1).forgeBoth(full.end().bytes(), marked.end(1, 16).bytes()).reopen(0).badAt(0);
    }

    private static void sumOfAGroup(Sentence s) {
        byte[] old = new Image().row(0, 1, 0).row(1, 1, 1).end().bytes();
        byte[] last = Image.rowBytes(1, 1, Image.contents(1));
        byte[] first = Image.rowBytes(0, 1, Image.contents(0));
        int lastSum = sumAtEnd(last);
        s.log().groupOf(2, 1).forgeBoth(old, withGroupSum(old, lastSum)).reopen(2);
        s.log().groupOf(2, 1).forgeBoth(old, withGroupSum(old, sumAtEnd(first))).reopen(0).badAt(0);
        s.log().groupOf(2, 1).forgeBoth(old, withGroupSum(old, 0)).reopen(0).badAt(0);
        s.log().groupOf(2, 1).forgeBoth(old, withGroupSum(old, lastSum + 1)).reopen(0).badAt(0);
    }

    private static int sumAtEnd(byte[] row) {
        return java.nio.ByteBuffer.wrap(row).getInt(row.length - 4);
    }

    /** A group of two rows whose sum goes on from this one. */
    private static byte[] withGroupSum(byte[] group, int begin) {
        int sum = Image.sum(begin, new byte[] {0, 2});
        byte[] bytes = group.clone();
        java.nio.ByteBuffer.wrap(bytes).putInt(bytes.length - 4, sum);
        return bytes;
    }

    private static byte[] hex(String text) {
        String[] pairs = text.split(" ");
        byte[] bytes = new byte[pairs.length];
        for (int i = 0; i < pairs.length; i++) {
            bytes[i] = (byte) Integer.parseInt(pairs[i], 16);
        }
        return bytes;
    }

    /** Bytes that were worked out apart from all code of this project. */
    private static void sumsBeginWith0(Sentence s) {
        byte[] zero = hex("01 00 00 00 00 00 00 00 46 53 46 F8 00 01 30 06 C5 47");
        byte[] one = hex("01 00 00 00 00 01 00 00 9A 55 9F 1C 00 01 4F 06 C7 B8");
        s.log().group(0, 0).forge(0, 0, zero, one).reopen(1).byteAt(0, 0, 1).repaired(1);
        s.log().group(0, 1).forge(0, 0, one, zero).reopen(1).byteAt(0, 0, 0).repaired(1);
    }

    private static void sumsWrapAround(Sentence s) {
        byte[] two = hex("02 3B 9A CA 00 FF 01 00 00 87 96 05 18 01 3B 9A CA 00 07 00 01 1D 0A A6 0B"
            + " 00 02 91 6A 94 E7");
        byte[] other = new Image().row(0, 7, 3, 4).row(1, 8, 5).end().bytes();
        s.log().put(LAST, 0, 255, 1).put(LAST, 1, 7).endGroup(true).forge(0, 0, two, other).reopen(2).repaired(1)
            .byteAt(1, 0, 5).rows(0, 2);
        s.log().put(7, 0, 3, 4).put(8, 1, 5).endGroup(true).forge(0, 0, other, two).reopen(2).repaired(1)
            .byteAt(0, 0, 255).rows(LAST / MONTH, 2);
        byte[] less = two.clone();
        less[less.length - 4] &= 0x7F;
        s.log().put(7, 0, 3, 4).put(8, 1, 5).endGroup(true).forgeBoth(other, less).reopen(0);
    }

    private static void goodWhenWhole(Sentence s) {
        for (int kept = 0; kept <= 18; kept++) {
            int rows = kept == 18 ? 1 : 0;
            s.logWith(5).crash(0, kept, true).crash(1, kept, true).reopen(rows).sizes(18 * rows);
            s.logWith(5, 6).crash(0, 18 + kept, true).crash(1, 18 + kept, true).reopen(1 + rows);
        }
        lastByteIsMissing(s, 0);
        lastByteIsMissing(s, 255);
    }

    /** A last byte that could be taken for one that is not there must stand there all the same. */
    private static void lastByteIsMissing(Sentence s, int last) {
        int tried = 0;
        for (int second = 0; second < 3_000; second++) {
            if ((new Image().row(0, second, 100).end().bytes()[17] & 255) == last) {
                tried++;
                s.logWith(second).crash(0, 17, true).crash(1, 17, true).reopen(0).badAt(0);
                s.logWith(second).crash(0, 18, true).crash(1, 17, true).reopen(1).badAt(NONE);
            }
        }
        s.due("some were tried", tried > 0 ? 1 : 0, 1);
    }

    private static void goodWith1To16Rows(Sentence s) {
        byte[] first = new Image().row(0, 1, 100).end().bytes();
        byte[] both = new Image().row(0, 1, 100).end().row(1, 1, 101).end().bytes();
        int rowSum = sumAtEnd(Image.rowBytes(0, 1, Image.contents(100)));
        for (int begin : new int[] {0, -1, rowSum, sumAtEnd(first)}) {
            byte[] noRows = new Image().end(0, 0, begin).bytes();
            s.logWith(1).crash(0, 6, true).crash(1, 6, true).forgeBoth(Arrays.copyOf(first, 6), noRows)
                .reopen(0).badAt(0).sizes(0);
            byte[] behind = Arrays.copyOfRange(both, 18, 24);
            s.logWith(1, 1).crash(0, 24, true).crash(1, 0, true).forge(0, 18, behind, noRows)
                .reopen(1).badAt(18).sizes(18);
        }
        s.logWith(1).reopen(1).badAt(NONE).sizes(18);
        openRows(s, 16, 16);
        openRows(s, 17, 0);
    }

    /** Opens a log with file 0 forged to have one group of so many rows, of 220 bytes in all. */
    private static void openRows(Sentence s, int rows, int due) {
        Image old = new Image();
        for (int r = 0; r < 16; r++) {
            old.row(r, 1, r);
        }
        old.end().row(16, 1, 100, 101, 102, 103, 104).end();
        Image wanted = new Image().row(0, 1, new int[220 - 12 * (rows - 1) - 11 - 6]);
        for (int r = 1; r < rows; r++) {
            wanted.row(r, 1, r);
        }
        s.log().groupOf(16, 1).group(1, 100, 101, 102, 103, 104).crash(1, 0, true)
            .forge(0, 0, old.bytes(), wanted.end().bytes()).reopen(due).badAt(due == 0 ? 0 : NONE);
    }

    private static void goodWhenSumsAreRight(Sentence s) {
        // Two rows of one byte: their sums stand at 8 and at 20, the group's at 26.
        for (int sum : new int[] {8, 20, 26}) {
            for (int bit = 0; bit < 32; bit++) {
                s.log().groupOf(2, 1).pokeBoth(sum + bit / 8, 1 << bit % 8).reopen(0).badAt(0);
            }
        }
        s.log().groupOf(2, 1).pokeBoth(5, 1).reopen(0).badAt(0);
        s.log().groupOf(2, 1).pokeBoth(5, 1).pokeBoth(5, 1).reopen(2).badAt(NONE);
    }

    private static void openNumbers(Sentence s, int number0, int number1, int number2, int due) {
        byte[] old = new Image().row(0, 1, 100).end().row(1, 1, 0).row(2, 1, 1).end().bytes();
        byte[] wanted = new Image().row(number0, 1, 100).end().row(number1, 1, 7).row(number2, 1, 8).end().bytes();
        s.logWith(1).groupOf(2, 1).forgeBoth(old, wanted).reopen(due).badAt(due == 3 ? NONE : 18 * due);
    }

    private static void goodWhenNumbersFollow(Sentence s) {
        openNumbers(s, 0, 1, 2, 3);
        openNumbers(s, 1, 2, 3, 0);
        openNumbers(s, 65_535, 0, 1, 0);
        openNumbers(s, 0, 0, 1, 1);
        openNumbers(s, 0, 2, 3, 1);
        openNumbers(s, 0, 1, 1, 1);
        openNumbers(s, 0, 1, 3, 1);
    }

    private static void openSeconds(Sentence s, int second0, int second1, int second2, int due) {
        byte[] old = new Image().row(0, 50, 0).row(1, 50, 1).row(2, 50, 2).end().bytes();
        byte[] wanted = new Image().row(0, second0, 0).row(1, second1, 1).row(2, second2, 2).end().bytes();
        s.log().groupOf(3, 50).forgeBoth(old, wanted).reopen(due);
    }

    private static void goodWhenSecondsFollow(Sentence s) {
        openSeconds(s, 50, 50, 50, 3);
        openSeconds(s, 49, 50, 51, 3);
        openSeconds(s, 50, 49, 50, 0);
        openSeconds(s, 50, 50, 49, 0);
        openSeconds(s, 51, 50, 51, 0);
        openSeconds(s, 0, 0, LAST, 3);
    }

    private static void goodBehindTheLastRowKnown(Sentence s) {
        byte[] old = new Image().row(0, 40, 100).end().row(1, 50, 101).end().row(2, 60, 102).end().bytes();
        for (int second : new int[] {40, 39, 60, 61}) {
            byte[] wanted = new Image().row(0, 40, 100).end().row(1, second, 101).end().row(2, 60, 102).end().bytes();
            int due = second < 40 ? 1 : second > 60 ? 2 : 3;
            s.logWith(40, 50, 60).forgeBoth(old, wanted).reopen(due).badAt(due == 3 ? NONE : 18 * due);
        }
        openSecond(s, 0, 1);
    }

    private static void goodBehindAMovedRow(Sentence s) {
        byte[] left = new Image().row(1, MONTH, 101).end().bytes();
        for (int second : new int[] {50, 49}) {
            byte[] wanted = new Image().row(1, second, 101).end().bytes();
            s.logWith(50, MONTH).move(0, true).forgeBoth(left, wanted).reopen(second < 50 ? 1 : 2)
                .badAt(second < 50 ? 0 : NONE);
        }
    }

    private static void goodWhenRowsAreCounted(Sentence s) {
        byte[] old = new Image().row(0, 1, 0).row(1, 1, 1).end().bytes();
        for (int count : new int[] {0, 1, 2, 3, 16, 255}) {
            byte[] wanted = new Image().row(0, 1, 7).row(1, 1, 8).end(0, count).bytes();
            s.log().groupOf(2, 1).forgeBoth(old, wanted).reopen(count == 2 ? 2 : 0).badAt(count == 2 ? NONE : 0);
        }
    }

    private static void openingOfEmptyFiles(Sentence s) {
        s.log().reopen(0).repaired(0).badAt(NONE).sizes(0);
        s.logWith(5).crash(0, 0, true).reopen(1).repaired(1).sizes(18);
        s.logWith(5).crash(1, 0, true).reopen(1).repaired(1).sizes(18);
        s.logWith(5).crash(0, 0, true).crash(1, 0, true).reopen(0).badAt(NONE).sizes(0);
        s.logWith(5).crash(0, 1, true).crash(1, 0, true).reopen(0).badAt(0).sizes(0);
    }

    private static void openingStops(Sentence s) {
        for (int bad = 0; bad < 3; bad++) {
            s.logWith(1, 2, 3).pokeBoth(18 * bad, 64).reopen(bad).badAt(18 * bad).sizes(18 * bad);
            s.logWith(1, 2, 3).poke(0, 18 * bad, 64, true).reopen(3).badAt(NONE).sizes(54);
            s.logWith(1, 2, 3).poke(1, 18 * bad, 64, true).reopen(3).badAt(NONE).sizes(54);
        }
        s.logWith(1, 2, 3).poke(0, 17, 1, true).poke(1, 18, 1, true).poke(0, 53, 1, true).reopen(3).repaired(3);
        s.logWith(1, 2, 3).poke(0, 35, 1, true).crash(1, 35, true).reopen(1).badAt(18);
    }

    private static void openingTakesFile0(Sentence s) {
        byte[] old = new Image().row(0, 5, 100).end().bytes();
        byte[] other = new Image().row(0, 5, 200).end().bytes();
        s.logWith(5).forge(0, 0, old, other).reopen(1).byteAt(0, 0, 200).repaired(1).same(true);
        s.logWith(5).forge(1, 0, old, other).reopen(1).byteAt(0, 0, 100).repaired(1).same(true);
        s.logWith(5).forge(1, 0, old, other).reopen(1).crash(0, 0, true).reopen(1).byteAt(0, 0, 100);
    }

    private static void openingTakesFile1(Sentence s) {
        byte[] old = new Image().row(0, 5, 100).end().bytes();
        byte[] other = new Image().row(0, 5, 200).end().bytes();
        s.logWith(5).forge(1, 0, old, other).poke(0, 0, 1, true).reopen(1).byteAt(0, 0, 200).repaired(1);
        s.logWith(5).forge(1, 0, old, other).crash(0, 17, true).reopen(1).byteAt(0, 0, 200).repaired(1);
        s.logWith(5).forge(1, 0, old, other).crash(0, 18, true).reopen(1).byteAt(0, 0, 100).repaired(1);
    }

    private static void openingPutsRight(Sentence s) {
        s.logWith(1, 2).reopen(2).repaired(0);
        for (int f = 0; f < 2; f++) {
            for (int place : new int[] {0, 17, 18, 35}) {
                s.logWith(1, 2).poke(f, place, 1, true).reopen(2).repaired(1).reopen(2).repaired(0);
            }
            s.logWith(1, 2).crash(f, 36, true).reopen(2).repaired(0);
            s.logWith(1, 2).crash(f, 35, true).reopen(2).repaired(1);
            s.logWith(1, 2).crash(f, 18, true).reopen(2).repaired(1);
            s.logWith(1, 2).crash(f, 17, true).reopen(2).repaired(2);
            s.logWith(1, 2).crash(f, 0, true).reopen(2).repaired(2);
        }
        s.logWith(1, 2).poke(0, 20, 1, true).poke(1, 20, 2, true).reopen(1).repaired(0);
    }

    private static void openingDropsTheRest(Sentence s) {
        s.logWith(1, 2).crash(0, 35, true).crash(1, 19, true).reopen(1).sizes(18);
        s.logWith(1, 2).crash(0, 18, true).crash(1, 19, true).reopen(1).sizes(18);
        s.logWith(1, 2).crash(0, 19, true).crash(1, 18, true).reopen(1).sizes(18);
        s.logWith(1, 2).crash(0, 18, true).crash(1, 18, true).reopen(1).sizes(18);
        s.logWith(1, 2, 3).pokeBoth(18, 1).reopen(1).sizes(18).pokeBoth(17, 1).reopen(0).sizes(0);
        s.logWith(1, 2).pokeBoth(18, 1).reopen(1).group(1, 9).reopen(2).byteAt(1, 0, 9).sizes(36);
    }

    private static void openingMakesFilesTheSame(Sentence s) {
        Run run = s.logWith(1, 2, 3).poke(0, 3, 8, true).poke(1, 21, 8, true).crash(0, 40, true).same(false);
        run.reopen(3).repaired(3).same(true).sizes(54);
        run.crash(0, 0, true).reopen(3).byteAt(0, 0, 100).byteAt(1, 0, 101).byteAt(2, 0, 102);
        run.crash(1, 0, true).reopen(3).byteAt(0, 0, 100).byteAt(1, 0, 101).byteAt(2, 0, 102).same(true);
    }

    private static void crashCutsOneFile(Sentence s) {
        s.logWith(1, 2).crash(0, 20, true).size(0, 20).size(1, 36);
        s.logWith(1, 2).crash(1, 0, true).size(0, 36).size(1, 0);
        s.logWith(1, 2).crash(0, 36, true).sizes(36).same(true);
    }

    private static void crashDropsContents(Sentence s) {
        s.log().feed(1, true).crash(0, 0, true).reopen(0).row(0, NONE).feed(2, true).row(0, 0).endGroup(true)
            .byteAt(0, 0, 2).byteAt(0, 1, NONE);
        s.log().feed(1, true).crash(0, 1, false).row(0, 0);
    }

    private static void crashDropsTheGroup(Sentence s) {
        s.logWith(1).put(9, 0, 5).crash(0, 18, true).endGroup(false).reopen(1).endGroup(false).sizes(18)
            .feed(6, true).row(0, NONE).row(1, 0).endGroup(true).byteAt(1, 0, 6);
        s.logWith(1).put(9, 0, 5).crash(0, 19, false).endGroup(true).byteAt(1, 0, 5);
    }

    private static void crashDropsRows(Sentence s) {
        s.logWith(1, MONTH).move(0, true).crash(1, 18, true).rows(0, 1).rows(1, 0).byteAt(0, 0, 100).noRow(1, 0);
        s.logWith(1, MONTH).move(1, true).crash(1, 0, true).rows(0, 1).rows(1, 1).byteAt(1, 0, 101).noRow(2, 0);
        s.logWith(1, MONTH).crash(1, 36, true).rows(0, 0).rows(1, 0).noRow(0, 0).noRow(1, 0);
    }

    private static void crashShuts(Sentence s) {
        s.logWith(1).feed(1, true).crash(0, 18, true).feed(1, false).row(1, NONE).endGroup(false).move(0, false)
            .crash(1, 19, false).feed(1, false).crash(1, 18, true).feed(1, false)
            .reopen(1).feed(1, true).row(1, 0).endGroup(true).move(0, true);
    }

    private static void movedRowsAreKnown(Sentence s) {
        Run run = s.logWith(0, MONTH).move(0, true).byteAt(0, 0, 100);
        run.crash(0, 0, true).crash(1, 0, true).byteAt(0, 0, 100).rows(0, 1).noRow(1, 0);
        run.reopen(1).byteAt(0, 0, 100).rows(0, 1).group(MONTH, 7).byteAt(1, 0, 7).reopen(2).byteAt(1, 0, 7);
        run.pokeBoth(0, 1).reopen(1).byteAt(0, 0, 100).noRow(1, 0);
    }

    private static void movedRowsAreInNoFile(Sentence s) {
        s.logWith(0, MONTH).sizes(36).move(0, true).sizes(18).move(0, false).sizes(18).reopen(2).sizes(18);
        s.logWith(0, MONTH).move(1, true).sizes(0).same(true).reopen(2).badAt(NONE).repaired(0);
    }
}
