import java.util.Random;

/**
 * The limits of files and rows, which no run of 512 calls can reach: later answers are free, but
 * the class keeps to the limits all the same, and the machine throws nothing.
 */
final class LimitsTest {
    private static final int[] ODD = {Integer.MIN_VALUE, -1, 0, 1, 2, 15, 17, 18, 64, 255, 256, 600, 8191, 8192,
        1_000_000_000, 1_000_000_001, Integer.MAX_VALUE};
    private static final Check CHECK = new Check();

    public static void main(String[] args) {
        fileLimit();
        rowLimit();
        anyArguments();
        CHECK.finish("LimitsTest");
    }

    private static void putRow(MirrorLog log, int length, int number) {
        for (int i = 0; i < length; i++) {
            CHECK.due("feed", log.feed(i), true);
        }
        CHECK.due("row", log.row(0), number);
    }

    private static void putGroup(MirrorLog log, int length, int rows) {
        for (int r = 0; r < rows; r++) {
            putRow(log, length, r);
        }
        CHECK.due("endGroup", log.endGroup(), true);
    }

    private static void fileLimit() {
        MirrorLog log = new MirrorLog();
        for (int i = 0; i < 6; i++) {
            putGroup(log, 64, 16);
        }
        putGroup(log, 64, 12);
        putRow(log, 34, 0);
        CHECK.due("4: one byte too many", log.endGroup(), false);
        CHECK.due("4: feed", log.feed(1), true);
        CHECK.due("4: the rows stay in the group", log.row(0), 1);
        CHECK.due("4: reopen", log.reopen(), 108);
        putGroup(log, 33, 1);
        CHECK.due("4: 8,192 bytes", log.poke(0, 8191, 1), true);
        CHECK.due("4: no more", log.poke(0, 8192, 1), false);
        putRow(log, 1, 0);
        CHECK.due("4: full", log.endGroup(), false);
        CHECK.due("6: all stand in the file", log.reopen(), 109);
        CHECK.due("6: put right", log.repaired(), 1);
        CHECK.due("11: move", log.move(0), true);
        putGroup(log, 1, 1);
        CHECK.due("4: room again", log.reopen(), 110);
    }

    private static void rowLimit() {
        MirrorLog log = new MirrorLog();
        for (int i = 0; i < 37; i++) {
            putGroup(log, 1, 16);
            CHECK.due("11: move", log.move(0), true);
        }
        for (int r = 0; r < 8; r++) {
            putRow(log, 1, r);
        }
        CHECK.due("3: feed", log.feed(1), true);
        CHECK.due("3: 600 with those of the group", log.row(0), MirrorLog.FULL);
        CHECK.due("3: endGroup", log.endGroup(), true);
        CHECK.due("3: 600 known", log.row(0), MirrorLog.FULL);
        CHECK.due("3: nothing to end", log.endGroup(), false);
        CHECK.due("6: reopen", log.reopen(), 600);
        CHECK.due("7: last row", log.byteAt(599, 0), 0);
        CHECK.dueOutside("7: behind it", log, 600, 0);
    }

    private static void anyArguments() {
        for (int seed = 0; seed < 40; seed++) {
            Random random = new Random(seed);
            MirrorLog log = new MirrorLog();
            for (int i = 0; i < 20_000; i++) {
                anyCall(log, random);
            }
        }
    }

    private static int any(Random random, int bound) {
        return random.nextInt(8) == 0 ? ODD[random.nextInt(ODD.length)] : random.nextInt(bound);
    }

    private static void anyCall(MirrorLog log, Random random) {
        switch (random.nextInt(40)) {
            case 0 -> log.reopen();
            case 1 -> log.crash(any(random, 2), any(random, 8193));
            case 2 -> log.poke(any(random, 2), any(random, 8192), any(random, 256));
            case 3 -> log.move(any(random, 10));
            case 4 -> log.rows(any(random, 10));
            case 5 -> log.same();
            case 6 -> log.repaired();
            case 7 -> log.badAt();
            case 8 -> byteAt(log, any(random, 600), any(random, 64));
            case 9, 10 -> log.endGroup();
            case 11, 12, 13, 14, 15 -> log.row(any(random, 10));
            default -> log.feed(any(random, 256));
        }
    }

    private static void byteAt(MirrorLog log, int row, int i) {
        try {
            log.byteAt(row, i);
        } catch (ArrayIndexOutOfBoundsException e) {
            // One that the machine throws tells the index itself.
            CHECK.due("the machine threw: " + e.getMessage(), e.getMessage().contains("Index"), false);
        }
    }
}
