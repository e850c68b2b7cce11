import java.util.Random;
import java.util.function.Consumer;

/**
 * The limits of files and rows, which no run of 512 calls can reach: later answers are free, but
 * the class keeps to the limits all the same, and the machine throws nothing.
 */
final class LimitsTest {
    private static final int NONE = MirrorLog.NONE;
    private static final int FULL = MirrorLog.FULL;
    private static final int MOST_BYTES = 8192;
    private static final int[] ODD = {Integer.MIN_VALUE, -1, 0, 1, 2, 15, 17, 18, 64, 255, 256, 600, 8191, 8192,
        1_000_000_000, 1_000_000_001, Integer.MAX_VALUE};
    private static final Check CHECK = new Check();

    public static void main(String[] args) {
        holds("FILES have at most 8,192 bytes each", LimitsTest::mostBytes);
        holds("ROWS have numbers from 0 on, at most 600", LimitsTest::mostRows);
        holds("at most 600, in a file", LimitsTest::mostRowsInAFile);
        holds("its number (two bytes, the higher first)", LimitsTest::numbersOfTwoBytes);
        holds("3: FULL when 600 rows would be known with those of the group", LimitsTest::rowWhen600);
        holds("3: 600 rows, some of them moved", LimitsTest::rowWhen600WithMoved);
        holds("4: False, refused, when a file would have more than 8,192 bytes", LimitsTest::endGroupWhenFull);
        holds("4: the rows stay in the group then", LimitsTest::endGroupKeepsRows);
        holds("5: kept is not 0 to its size", LimitsTest::crashOfAFullFile);
        holds("8: for another place", LimitsTest::pokeOfAFullFile);
        anyArguments();
        CHECK.finish("LimitsTest");
    }

    private static void holds(String sentence, Consumer<Sentence> test) {
        Sentence.holds(CHECK, sentence, test);
    }

    /** Fills the group with rows of 64 bytes: 75 bytes each in a file. */
    private static Run longRows(Run run, int count) {
        for (int r = 0; r < count; r++) {
            run.put(0, r, new int[64]);
        }
        return run;
    }

    /** A log with 108 rows, whose files have 8,142 bytes: 50 are left. */
    private static Run nearlyFull(Sentence s) {
        Run run = s.longLog();
        for (int g = 0; g < 6; g++) {
            longRows(run, 16).endGroup(true);
        }
        return longRows(run, 12).endGroup(true).sizes(MOST_BYTES - 50);
    }

    private static Run full(Sentence s) {
        return nearlyFull(s).group(0, new int[33]).sizes(MOST_BYTES);
    }

    /** A log with so many rows, in groups of 16 and a last one of what is left. */
    private static Run withRows(Sentence s, int count) {
        Run run = s.longLog();
        for (int r = 0; r < count; r++) {
            run.put(0, r % 16, r & 255);
            if (r % 16 == 15 || r == count - 1) {
                run.endGroup(true);
            }
        }
        return run.rows(0, count);
    }

    private static int sizeWith(int rows) {
        return rows * 12 + (rows + 15) / 16 * 6;
    }

    private static void mostBytes(Sentence s) {
        full(s).same(true).reopen(109).repaired(0).badAt(NONE).byteAt(108, 32, 0).byteAt(108, 33, NONE)
            .crash(0, MOST_BYTES - 1, true).reopen(109).repaired(1).sizes(MOST_BYTES)
            .crash(1, 0, true).reopen(109).repaired(8).sizes(MOST_BYTES).same(true)
            .pokeBoth(MOST_BYTES - 1, 1).reopen(108).badAt(MOST_BYTES - 50).sizes(MOST_BYTES - 50);
        nearlyFull(s).put(0, 0, new int[34]).endGroup(false).sizes(MOST_BYTES - 50);
        full(s).move(0, true).sizes(0).group(0, 7).byteAt(109, 0, 7).sizes(18).reopen(110);
    }

    private static void mostRows(Sentence s) {
        withRows(s, 599).put(0, 0, 99).endGroup(true).rows(0, 600).byteAt(599, 0, 99).noRow(600, 0)
            .feed(1, true).row(0, FULL).endGroup(false).reopen(600).byteAt(599, 0, 99).noRow(600, 0);
    }

    /** Opens a log with a last row of 13 bytes that is forged to be two rows of one. */
    private static void openTwoRowsBehind(Sentence s, int rows, int due) {
        byte[] old = new Image().row(rows, 0, new int[13]).end().bytes();
        byte[] wanted = new Image().row(rows, 0, 1).row(rows + 1, 0, 2).end().bytes();
        int place = sizeWith(rows);
        withRows(s, rows).group(0, new int[13]).forge(0, place, old, wanted).forge(1, place, old, wanted)
            .reopen(due).badAt(due == rows ? place : NONE).noRow(due, 0);
    }

    private static void mostRowsInAFile(Sentence s) {
        openTwoRowsBehind(s, 597, 599);
        openTwoRowsBehind(s, 598, 600);
        openTwoRowsBehind(s, 599, 599);
    }

    private static void numbersOfTwoBytes(Sentence s) {
        for (int number : new int[] {255, 256, 257, 511, 512}) {
            byte[] old = new Image().row(number, 0, 1).end().bytes();
            byte[] wanted = new Image().row(number, 0, 50).end().bytes();
            byte[] low = new Image().row(number & 255, 0, 50).end().bytes();
            int place = sizeWith(number);
            withRows(s, number).group(0, 1).forge(0, place, old, wanted).reopen(number + 1).byteAt(number, 0, 50);
            withRows(s, number).group(0, 1).forge(0, place, old, low).reopen(number + 1)
                .byteAt(number, 0, number < 256 ? 50 : 1);
        }
    }

    private static void rowWhen600(Sentence s) {
        withRows(s, 592).put(0, 0, 1).put(0, 1, 1).put(0, 2, 1).put(0, 3, 1).put(0, 4, 1).put(0, 5, 1).put(0, 6, 1)
            .put(0, 7, 1).feed(1, true).row(0, FULL).endGroup(true).row(0, FULL).reopen(600);
        withRows(s, 599).feed(1, true).row(-1, NONE).row(0, 0).row(0, NONE).feed(2, true).row(0, FULL)
            .endGroup(true).rows(0, 600).row(0, FULL).row(-1, NONE);
    }

    private static void rowWhen600WithMoved(Sentence s) {
        withRows(s, 599).move(0, true).feed(1, true).row(0, 0).feed(2, true).row(0, FULL).endGroup(true)
            .move(0, true).row(0, FULL).crash(0, 0, true).reopen(600).feed(2, true).row(0, FULL);
    }

    private static void endGroupWhenFull(Sentence s) {
        nearlyFull(s).put(0, 0, new int[34]).endGroup(false).reopen(108).put(0, 0, new int[33]).endGroup(true)
            .sizes(MOST_BYTES).put(0, 0, 1).endGroup(false).sizes(MOST_BYTES).reopen(109);
        // Two rows of 11 bytes take 44, and the group 6.
        nearlyFull(s).put(0, 0, new int[11]).put(0, 1, new int[11]).endGroup(true).sizes(MOST_BYTES).reopen(110);
        nearlyFull(s).put(0, 0, new int[11]).put(0, 1, new int[12]).endGroup(false).sizes(MOST_BYTES - 50);
    }

    private static void endGroupKeepsRows(Sentence s) {
        nearlyFull(s).put(5, 0, new int[34]).endGroup(false).move(0, false).noRow(108, 0).feed(1, true).row(4, NONE)
            .row(5, 1).endGroup(false).rows(0, 108).reopen(108).move(0, true).sizes(0);
    }

    private static void crashOfAFullFile(Sentence s) {
        full(s).crash(0, MOST_BYTES + 1, false).crash(1, MOST_BYTES + 1, false).feed(1, true)
            .crash(0, MOST_BYTES, true).crash(1, MOST_BYTES, true).same(true).reopen(109);
    }

    private static void pokeOfAFullFile(Sentence s) {
        full(s).poke(0, MOST_BYTES, 1, false).poke(1, MOST_BYTES, 1, false).same(true)
            .poke(0, MOST_BYTES - 1, 1, true).same(false).poke(1, MOST_BYTES - 1, 1, true).same(true);
    }

    private static void anyArguments() {
        for (int seed = 0; seed < 40; seed++) {
            Random random = new Random(seed);
            MirrorLog log = new MirrorLog();
            for (int i = 0; i < 20_000; i++) {
                anyCall(log, random);
            }
        }
    }

    private static int any(Random random, int bound) {
        return random.nextInt(8) == 0 ? ODD[random.nextInt(ODD.length)] : random.nextInt(bound);
    }

    private static void anyCall(MirrorLog log, Random random) {
        switch (random.nextInt(40)) {
            case 0 -> log.reopen();
            case 1 -> log.crash(any(random, 2), any(random, 8193));
            case 2 -> log.poke(any(random, 2), any(random, 8192), any(random, 256));
            case 3 -> log.move(any(random, 10));
            case 4 -> log.rows(any(random, 10));
            case 5 -> log.same();
            case 6 -> log.repaired();
            case 7 -> log.badAt();
            case 8 -> byteAt(log, any(random, 600), any(random, 64));
            case 9, 10 -> log.endGroup();
            case 11, 12, 13, 14, 15 -> log.row(any(random, 10));
            default -> log.feed(any(random, 256));
        }
    }

    private static void byteAt(MirrorLog log, int row, int i) {
        try {
            log.byteAt(row, i);
        } catch (ArrayIndexOutOfBoundsException e) {
            // One that the machine throws tells the index itself.
            CHECK.due("the machine threw: " + e.getMessage(), e.getMessage().contains("Index"), false);
        }
    }
}
