import java.util.function.Consumer;

/**
 * The sentences of promises 1 to 13 that name a boundary: each has a test of its own, at the boundary
 * and just beyond it. Those that 512 calls do not reach stand in LimitsTest.
 */
final class BoundariesTest {
    private static final int NONE = MirrorLog.NONE;
    private static final int FULL = MirrorLog.FULL;
    private static final int MIN = Integer.MIN_VALUE;
    private static final int MAX = Integer.MAX_VALUE;
    private static final int MONTH = 2_592_000;
    private static final int LAST = 1_000_000_000;
    /** 2,592,000 times this is 0 in 32 bits. */
    private static final int WRAPPING = 1 << 24;
    private static final Check CHECK = new Check();

    public static void main(String[] args) {
        newObject();
        feed();
        row();
        endGroup();
        crash();
        reopen();
        byteAt();
        poke();
        repaired();
        badAt();
        move();
        rows();
        same();
        CHECK.finish("BoundariesTest");
    }

    private static void holds(String sentence, Consumer<Sentence> test) {
        Sentence.holds(CHECK, sentence, test);
    }

    private static void newObject() {
        holds("1: An open log", BoundariesTest::isOpen);
        holds("1: both files are empty", BoundariesTest::isEmpty);
    }

    private static void feed() {
        holds("2: A byte (0 .. 255) comes to the contents of the next row", BoundariesTest::feedKeepsBytes);
        holds("2: False, refused, when the log is shut", BoundariesTest::feedWhenShut);
        holds("2: for another number", BoundariesTest::feedOfAnotherNumber);
        holds("2: when there are 64", BoundariesTest::feedWhenThereAre64);
    }

    private static void row() {
        holds("3: the number of the row in the group, from 0", BoundariesTest::rowNumbers);
        holds("3: NONE, refused, when the log is shut", BoundariesTest::rowWhenShut);
        holds("3: nothing was fed", BoundariesTest::rowOfNothing);
        holds("3: the second is out of its range", BoundariesTest::rowOutOfRange);
        holds("3: below that of the last row of the group", BoundariesTest::rowBelowTheGroup);
        holds("3: below that of the last row known", BoundariesTest::rowBelowTheKnown);
        holds("3: below that of the last row moved", BoundariesTest::rowBelowTheMoved);
        holds("3: FULL when the group has 16 rows", BoundariesTest::rowWhenFull);
        holds("3: NONE, refused: the contents stay", BoundariesTest::rowRefusedAltersNothing);
    }

    private static void endGroup() {
        holds("4: its rows are known", BoundariesTest::endGroupMakesKnown);
        holds("4: stands in both files", BoundariesTest::endGroupWritesBoth);
        holds("4: False, refused, when the log is shut", BoundariesTest::endGroupWhenShut);
        holds("4: the group has no rows", BoundariesTest::endGroupOfNothing);
    }

    private static void crash() {
        holds("5: a file keeping so many bytes", BoundariesTest::crashKeeps);
        holds("5: False, refused, for another file", BoundariesTest::crashOfAnotherFile);
        holds("5: when kept is not 0 to its size", BoundariesTest::crashBeyondItsSize);
        holds("5: refused alters nothing", BoundariesTest::crashRefusedAltersNothing);
    }

    private static void reopen() {
        holds("6: also when it is not shut", BoundariesTest::reopenWhenOpen);
        holds("6: contents not in a row go", BoundariesTest::reopenDropsContents);
        holds("6: rows of a group that has not ended go", BoundariesTest::reopenDropsTheGroup);
        holds("6: how many rows are known then", BoundariesTest::reopenCounts);
    }

    private static void byteAt() {
        holds("7: NONE when it has no such byte", BoundariesTest::byteAtOutside);
        holds("7: A row that is none is thrown as an index outside", BoundariesTest::byteAtOfNoRow);
        holds("7: a row that is known, not one of the group", BoundariesTest::byteAtOfTheGroup);
        holds("7: a row that is known, when the log is shut", BoundariesTest::byteAtWhenShut);
    }

    private static void poke() {
        holds("8: altered by a mask, bit by bit", BoundariesTest::pokeTwice);
        holds("8: False, refused, for another file", BoundariesTest::pokeOfAnotherFile);
        holds("8: for another place", BoundariesTest::pokeOfAnotherPlace);
        holds("8: for another mask (1 .. 255)", BoundariesTest::pokeOfAnotherMask);
    }

    private static void repaired() {
        holds("9: 0 before", BoundariesTest::repairedBefore);
        holds("9: How many groups were put right", BoundariesTest::repairedCounts);
        holds("9: when the log was last opened", BoundariesTest::repairedLast);
    }

    private static void badAt() {
        holds("10: NONE before", BoundariesTest::badAtBefore);
        holds("10: some bytes of a file were there or behind", BoundariesTest::badAtOneByte);
        holds("10: NONE when there were none", BoundariesTest::badAtNoBytes);
        holds("10: when the log was last opened", BoundariesTest::badAtLast);
    }

    private static void move() {
        holds("11: of months up to this one", BoundariesTest::moveUpTo);
        holds("11: months that wrap around", BoundariesTest::moveFarMonths);
        holds("11: All groups from the first on", BoundariesTest::moveFromTheFirst);
        holds("11: a group whose rows are of two months", BoundariesTest::moveWholeGroups);
        holds("11: whether there was some", BoundariesTest::moveOfNothing);
        holds("11: False, refused, when the log is shut", BoundariesTest::moveWhenShut);
        holds("11: a row is in the group that has not ended", BoundariesTest::moveWithARow);
        holds("11: the files are not the same", BoundariesTest::moveOfOtherFiles);
    }

    private static void rows() {
        holds("12: How many rows of a month", BoundariesTest::rowsOfAMonth);
        holds("12: months that wrap around", BoundariesTest::rowsOfFarMonths);
        holds("12: are known", BoundariesTest::rowsThatAreKnown);
    }

    private static void same() {
        holds("13: of empty files", BoundariesTest::sameWhenEmpty);
        holds("13: Whether both files have the same bytes", BoundariesTest::sameByteByByte);
        holds("13: and as many", BoundariesTest::sameSize);
    }

    private static void isOpen(Sentence s) {
        s.log().feed(0, true).row(0, 0).endGroup(true).move(0, true);
        s.log().crash(0, 0, true).feed(0, false);
    }

    private static void isEmpty(Sentence s) {
        s.log().sizes(0).same(true).rows(0, 0).noRow(0, 0).repaired(0).badAt(NONE).move(MAX, false).reopen(0);
        s.log().crash(0, 1, false).crash(1, 1, false).feed(1, true).crash(0, 0, true).crash(1, 0, true).reopen(0);
    }

    private static void feedKeepsBytes(Sentence s) {
        s.log().feed(0, true).feed(1, true).feed(127, true).feed(128, true).feed(254, true).feed(255, true)
            .row(0, 0).endGroup(true).byteAt(0, 0, 0).byteAt(0, 1, 1).byteAt(0, 2, 127).byteAt(0, 3, 128)
            .byteAt(0, 4, 254).byteAt(0, 5, 255).byteAt(0, 6, NONE).reopen(1).byteAt(0, 3, 128).byteAt(0, 5, 255);
    }

    private static void feedWhenShut(Sentence s) {
        s.log().feed(1, true).crash(0, 0, true).feed(1, false).reopen(0).row(0, NONE).feed(2, true).row(0, 0)
            .endGroup(true).byteAt(0, 0, 2).byteAt(0, 1, NONE);
    }

    private static void feedOfAnotherNumber(Sentence s) {
        for (int wrong : new int[] {-1, 256, -256, 511, MIN, MAX}) {
            s.log().feed(wrong, false).row(0, NONE).feed(3, true).feed(wrong, false).row(0, 0).endGroup(true)
                .byteAt(0, 0, 3).byteAt(0, 1, NONE);
        }
    }

    private static Run fedWith(Run run, int count) {
        for (int i = 0; i < count; i++) {
            run.feed(i, true);
        }
        return run;
    }

    private static void feedWhenThereAre64(Sentence s) {
        fedWith(s.log(), 63).feed(200, true).feed(201, false).feed(202, false).row(0, 0).feed(203, true)
            .endGroup(true).byteAt(0, 62, 62).byteAt(0, 63, 200).byteAt(0, 64, NONE);
        fedWith(s.log(), 64).feed(-1, false).reopen(0).feed(1, true);
    }

    private static void rowNumbers(Sentence s) {
        Run run = s.log();
        for (int r = 0; r < 16; r++) {
            run.put(r, r, r);
        }
        run.endGroup(true).put(15, 0, 1).put(15, 1, 1).reopen(16).put(15, 0, 1);
    }

    private static void rowWhenShut(Sentence s) {
        s.log().feed(1, true).crash(0, 0, true).row(0, NONE).reopen(0).row(0, NONE).feed(1, true).row(0, 0);
    }

    private static void rowOfNothing(Sentence s) {
        s.log().row(0, NONE).feed(1, true).row(0, 0).row(0, NONE).feed(256, false).row(0, NONE)
            .feed(2, true).row(0, 1).endGroup(true).row(0, NONE).rows(0, 2);
    }

    private static void rowOutOfRange(Sentence s) {
        s.log().feed(1, true).row(-1, NONE).row(MIN, NONE).row(0, 0);
        s.log().feed(1, true).row(LAST + 1, NONE).row(MAX, NONE).row(LAST, 0);
    }

    private static void rowBelowTheGroup(Sentence s) {
        s.log().put(50, 0, 1).feed(2, true).row(49, NONE).row(50, 1).feed(3, true).row(49, NONE).row(51, 2)
            .feed(4, true).row(50, NONE).row(51, 3);
        s.log().put(0, 0, 1).feed(2, true).row(-1, NONE).row(0, 1);
        s.log().put(LAST, 0, 1).feed(2, true).row(LAST - 1, NONE).row(LAST, 1);
    }

    private static void rowBelowTheKnown(Sentence s) {
        s.logWith(40, 50).feed(2, true).row(49, NONE).row(50, 0);
        s.logWith(40, 50).reopen(2).feed(2, true).row(49, NONE).row(50, 0);
        s.logWith(40, 50).pokeBoth(18, 1).reopen(1).feed(2, true).row(39, NONE).row(40, 0);
        s.logWith(40).put(60, 0, 1).reopen(1).feed(2, true).row(39, NONE).row(40, 0);
        s.logWith(40).pokeBoth(0, 1).reopen(0).feed(2, true).row(-1, NONE).row(0, 0);
    }

    private static void rowBelowTheMoved(Sentence s) {
        s.logWith(50).move(0, true).feed(2, true).row(49, NONE).row(50, 0);
        s.logWith(50).move(0, true).crash(0, 0, true).reopen(1).feed(2, true).row(49, NONE).row(50, 0);
        s.logWith(50, MONTH).move(0, true).feed(2, true).row(MONTH - 1, NONE).row(MONTH, 0);
    }

    private static Run rowsInGroup(Run run, int count) {
        for (int r = 0; r < count; r++) {
            run.put(50, r, r);
        }
        return run;
    }

    private static void rowWhenFull(Sentence s) {
        rowsInGroup(s.log(), 15).feed(90, true).row(50, 15).feed(91, true).row(50, FULL).row(LAST, FULL)
            .endGroup(true).rows(0, 16).row(50, 0).endGroup(true).byteAt(15, 0, 90).byteAt(16, 0, 91).noRow(17, 0);
        rowsInGroup(s.log(), 16).row(50, NONE).feed(1, true).row(49, NONE).row(50, FULL).reopen(0).put(0, 0, 1);
        rowsInGroup(s.log().groupOf(16, 50), 16).feed(1, true).row(50, FULL).endGroup(true).reopen(32);
    }

    private static void rowRefusedAltersNothing(Sentence s) {
        s.log().put(50, 0, 1).feed(7, true).row(49, NONE).row(LAST + 1, NONE).feed(8, true).row(50, 1)
            .endGroup(true).byteAt(1, 0, 7).byteAt(1, 1, 8).byteAt(1, 2, NONE).noRow(2, 0);
        rowsInGroup(s.log(), 16).feed(7, true).row(50, FULL).feed(8, true).endGroup(true).row(50, 0)
            .endGroup(true).byteAt(16, 0, 7).byteAt(16, 1, 8).byteAt(16, 2, NONE);
    }

    private static void endGroupMakesKnown(Sentence s) {
        s.log().put(0, 0, 1).put(0, 1, 2).noRow(0, 0).rows(0, 0).endGroup(true).byteAt(0, 0, 1).byteAt(1, 0, 2)
            .noRow(2, 0).rows(0, 2);
        rowsInGroup(s.log(), 16).noRow(0, 0).endGroup(true).byteAt(15, 0, 15).noRow(16, 0).rows(0, 16);
    }

    private static void endGroupWritesBoth(Sentence s) {
        s.log().put(0, 0, 1).sizes(0).endGroup(true).sizes(18).put(0, 0, 2).sizes(18).endGroup(true).sizes(36);
        s.logWith(5).crash(0, 0, true).reopen(1).byteAt(0, 0, 100);
        s.logWith(5).crash(1, 0, true).reopen(1).byteAt(0, 0, 100);
        s.logWith(5).poke(0, 0, 1, true).put(5, 0, 1).endGroup(true).same(false).sizes(36).reopen(2).repaired(1);
    }

    private static void endGroupWhenShut(Sentence s) {
        s.log().put(0, 0, 1).crash(0, 0, true).endGroup(false).reopen(0).endGroup(false).sizes(0)
            .put(0, 0, 1).endGroup(true).sizes(18);
    }

    private static void endGroupOfNothing(Sentence s) {
        s.log().endGroup(false).sizes(0).feed(1, true).endGroup(false).sizes(0).row(0, 0).endGroup(true).sizes(18)
            .endGroup(false).sizes(18).feed(1, true).row(-1, NONE).endGroup(false).row(0, 0).endGroup(true);
        s.log().put(0, 0, 1).reopen(0).endGroup(false);
    }

    private static void crashKeeps(Sentence s) {
        for (int f = 0; f < 2; f++) {
            for (int kept : new int[] {0, 1, 17, 18}) {
                s.logWith(5).crash(f, kept, true).size(f, kept).size(1 - f, 18).same(kept == 18).reopen(1)
                    .repaired(kept == 18 ? 0 : 1);
            }
        }
    }

    private static void crashOfAnotherFile(Sentence s) {
        for (int wrong : new int[] {-1, 2, 256, MIN, MAX}) {
            s.logWith(5).crash(wrong, 0, false).crash(wrong, 18, false).feed(1, true).sizes(18);
        }
        s.logWith(5).crash(0, 0, true);
        s.logWith(5).crash(1, 0, true);
    }

    private static void crashBeyondItsSize(Sentence s) {
        for (int f = 0; f < 2; f++) {
            s.log().crash(f, -1, false).crash(f, 1, false).feed(1, true).crash(f, 0, true);
            s.logWith(5).crash(f, -1, false).crash(f, 19, false).crash(f, MIN, false).crash(f, MAX, false)
                .feed(1, true).crash(f, 18, true).crash(f, 10, true).crash(f, 11, false).crash(1 - f, 18, true)
                .crash(f, 10, true).crash(f, 0, true).crash(f, 1, false).crash(f, -1, false).crash(f, 0, true);
        }
    }

    private static void crashRefusedAltersNothing(Sentence s) {
        s.logWith(5).put(6, 0, 1).feed(2, true).crash(0, 19, false).crash(2, 0, false).byteAt(0, 0, 100).rows(0, 1)
            .row(6, 1).endGroup(true).byteAt(1, 0, 1).byteAt(2, 0, 2).same(true);
    }

    private static void reopenWhenOpen(Sentence s) {
        s.log().reopen(0).reopen(0).groups(5, 6).reopen(2).reopen(2).byteAt(1, 0, 101).feed(1, true);
        s.logWith(5).crash(0, 18, true).feed(1, false).reopen(1).feed(1, true).reopen(1).feed(1, true);
    }

    private static void reopenDropsContents(Sentence s) {
        s.log().feed(1, true).reopen(0).row(0, NONE);
        fedWith(s.log(), 64).reopen(0).row(0, NONE);
        fedWith(fedWith(s.log(), 64).reopen(0), 64).feed(1, false);
    }

    private static void reopenDropsTheGroup(Sentence s) {
        s.log().put(9, 0, 1).reopen(0).endGroup(false).sizes(0).feed(1, true).row(0, 0);
        rowsInGroup(s.log(), 16).reopen(0).endGroup(false).put(0, 0, 1).endGroup(true).rows(0, 1);
    }

    private static void reopenCounts(Sentence s) {
        s.log().reopen(0);
        s.log().groupOf(1, 0).reopen(1).groupOf(16, 0).reopen(17).move(0, true).reopen(17).groupOf(2, 0).reopen(19)
            .crash(0, 0, true).crash(1, 29, true).reopen(17).badAt(0);
    }

    private static void byteAtOutside(Sentence s) {
        s.log().put(0, 0, 5, 6, 7).put(0, 1, 8).endGroup(true).byteAt(0, -1, NONE).byteAt(0, 0, 5).byteAt(0, 2, 7)
            .byteAt(0, 3, NONE).byteAt(1, -1, NONE).byteAt(1, 0, 8).byteAt(1, 1, NONE).byteAt(0, MIN, NONE)
            .byteAt(0, MAX, NONE);
        fedWith(s.log(), 64).row(0, 0).put(0, 1, 99).endGroup(true).byteAt(0, 63, 63).byteAt(0, 64, NONE)
            .byteAt(1, -1, NONE).byteAt(1, 0, 99).byteAt(1, 1, NONE);
        s.logWith(0).move(0, true).byteAt(0, 0, 100).byteAt(0, 1, NONE).byteAt(0, -1, NONE);
    }

    private static void byteAtOfNoRow(Sentence s) {
        s.log().noRow(0, 0).noRow(-1, 0).noRow(MIN, 0).noRow(MAX, 0);
        s.logWith(0, 0).byteAt(0, 0, 100).byteAt(1, 0, 101).noRow(2, 0).noRow(-1, 0).noRow(2, -1).noRow(-1, MAX)
            .noRow(MIN, MIN).noRow(MAX, MAX).move(0, true).byteAt(1, 0, 101).noRow(2, 0).noRow(-1, 0);
    }

    private static void byteAtOfTheGroup(Sentence s) {
        s.logWith(0).put(0, 0, 7).byteAt(0, 0, 100).noRow(1, 0).endGroup(true).byteAt(1, 0, 7).noRow(2, 0);
    }

    private static void byteAtWhenShut(Sentence s) {
        s.logWith(0, MONTH).move(0, true).crash(0, 18, true).byteAt(0, 0, 100).byteAt(0, 1, NONE).noRow(1, 0)
            .reopen(2).byteAt(1, 0, 101).noRow(2, 0);
    }

    private static void pokeTwice(Sentence s) {
        s.logWith(0).poke(0, 5, 255, true).same(false).poke(0, 5, 240, true).same(false).poke(0, 5, 15, true).same(true);
        s.logWith(0).poke(0, 5, 1, true).poke(1, 5, 2, true).same(false).poke(0, 5, 2, true).poke(1, 5, 1, true)
            .same(true).reopen(0);
        s.logWith(0).pokeBoth(5, 128).byteAt(0, 0, 100).pokeBoth(5, 128).reopen(1);
    }

    private static void pokeOfAnotherFile(Sentence s) {
        for (int wrong : new int[] {-1, 2, 256, MIN, MAX}) {
            s.logWith(0).poke(wrong, 0, 1, false).same(true).reopen(1).repaired(0);
        }
        s.logWith(0).poke(0, 0, 1, true).same(false);
        s.logWith(0).poke(1, 0, 1, true).same(false);
    }

    private static void pokeOfAnotherPlace(Sentence s) {
        for (int f = 0; f < 2; f++) {
            s.log().poke(f, -1, 1, false).poke(f, 0, 1, false);
            s.logWith(0).poke(f, -1, 1, false).poke(f, 18, 1, false).poke(f, MIN, 1, false).poke(f, MAX, 1, false)
                .same(true).poke(f, 0, 1, true).poke(f, 17, 1, true).same(false)
                .crash(f, 10, true).poke(f, 9, 1, true).poke(f, 10, 1, false).poke(1 - f, 17, 1, true)
                .crash(f, 0, true).poke(f, 0, 1, false);
        }
    }

    private static void pokeOfAnotherMask(Sentence s) {
        for (int wrong : new int[] {0, -1, 256, 257, -255, MIN, MAX}) {
            s.logWith(0).poke(0, 0, wrong, false).poke(1, 17, wrong, false).same(true).reopen(1).repaired(0);
        }
        s.logWith(0).poke(0, 0, 1, true).same(false).poke(0, 17, 255, true).poke(1, 17, 255, true)
            .poke(1, 0, 1, true).same(true);
    }

    private static void repairedBefore(Sentence s) {
        s.logWith(0).repaired(0).poke(0, 0, 1, true).repaired(0).crash(1, 18, true).repaired(0).reopen(1).repaired(1);
    }

    private static void repairedCounts(Sentence s) {
        s.log().reopen(0).repaired(0);
        s.logWith(0, 1, 2).reopen(3).repaired(0);
        s.logWith(0, 1, 2).poke(1, 20, 1, true).reopen(3).repaired(1);
        s.logWith(0, 1, 2).poke(1, 0, 1, true).poke(0, 20, 1, true).poke(1, 53, 1, true).reopen(3).repaired(3);
        s.logWith(0, 1, 2).poke(1, 0, 1, true).poke(1, 17, 1, true).reopen(3).repaired(1);
        s.logWith(0, 1, 2).poke(1, 0, 1, true).pokeBoth(18, 1).poke(1, 36, 1, true).reopen(1).repaired(1);
        s.logWith(0, 1, 2).crash(0, 0, true).reopen(3).repaired(3);
        s.log().groupOf(16, 0).crash(0, 0, true).reopen(16).repaired(1);
    }

    private static void repairedLast(Sentence s) {
        s.logWith(0, 1).crash(0, 0, true).reopen(2).repaired(2).crash(1, 18, true).repaired(2).feed(1, false)
            .reopen(2).repaired(1).put(1, 0, 1).endGroup(true).move(0, true).repaired(1).reopen(3).repaired(0);
    }

    private static void badAtBefore(Sentence s) {
        s.logWith(0).badAt(NONE).pokeBoth(0, 1).badAt(NONE).crash(0, 17, true).badAt(NONE).reopen(0).badAt(0);
    }

    private static void badAtOneByte(Sentence s) {
        s.logWith(0, 1).crash(0, 19, true).crash(1, 18, true).reopen(1).badAt(18);
        s.logWith(0, 1).crash(0, 18, true).crash(1, 19, true).reopen(1).badAt(18);
        s.logWith(0, 1).crash(0, 0, true).crash(1, 19, true).reopen(1).badAt(18);
        s.logWith(0, 1).crash(0, 1, true).crash(1, 0, true).reopen(0).badAt(0);
        s.logWith(0, 1).crash(0, 0, true).crash(1, 1, true).reopen(0).badAt(0);
        s.logWith(0, 1, 2).pokeBoth(18, 1).reopen(1).badAt(18);
        s.logWith(0, 1, 2).pokeBoth(53, 1).reopen(2).badAt(36);
        s.logWith(0, MONTH).move(0, true).pokeBoth(17, 1).reopen(1).badAt(0);
    }

    private static void badAtNoBytes(Sentence s) {
        s.log().reopen(0).badAt(NONE);
        s.logWith(0, 1).reopen(2).badAt(NONE);
        s.logWith(0, 1).crash(0, 18, true).crash(1, 18, true).reopen(1).badAt(NONE);
        s.logWith(0, 1).crash(0, 18, true).crash(1, 0, true).reopen(1).badAt(NONE);
        s.logWith(0, 1).crash(0, 17, true).crash(1, 18, true).reopen(1).badAt(NONE);
        s.logWith(0, 1).crash(0, 0, true).crash(1, 0, true).reopen(0).badAt(NONE);
        s.logWith(0, 1).poke(0, 35, 1, true).poke(1, 0, 1, true).reopen(2).badAt(NONE);
    }

    private static void badAtLast(Sentence s) {
        s.logWith(0, 1).pokeBoth(18, 1).reopen(1).badAt(18).crash(0, 1, true).badAt(18).crash(1, 2, true).badAt(18)
            .reopen(0).badAt(0).group(0, 1).badAt(0).reopen(1).badAt(NONE);
    }

    private static void moveUpTo(Sentence s) {
        s.logWith(0).move(-1, false).move(MIN, false).sizes(18).move(0, true).sizes(0);
        s.logWith(MONTH - 1).move(-1, false).move(0, true);
        s.logWith(MONTH).move(0, false).sizes(18).move(1, true).sizes(0);
        s.logWith(2 * MONTH - 1).move(0, false).move(1, true);
        s.logWith(385 * MONTH - 1).move(383, false).move(384, true);
        s.logWith(385 * MONTH).move(384, false).move(385, true);
        s.logWith(LAST).move(384, false).move(385, true);
        s.logWith(LAST).move(386, true);
    }

    private static void moveFarMonths(Sentence s) {
        for (int far : new int[] {1656, 1657, 828, 829, WRAPPING, WRAPPING - 1, MAX - 1, MAX}) {
            s.logWith(0, LAST).move(far, true).sizes(0).rows(0, 1).rows(385, 1);
        }
        for (int low : new int[] {-2, -828, -829, -1657, -WRAPPING, MIN + 1, MIN}) {
            s.logWith(0, LAST).move(low, false).sizes(36);
        }
    }

    private static void moveFromTheFirst(Sentence s) {
        s.logWith(0, MONTH, 2 * MONTH).move(1, true).sizes(18).move(1, false).move(2, true).sizes(0).move(2, false);
        s.logWith(0, 0, 0).move(0, true).sizes(0).reopen(3).byteAt(0, 0, 100).byteAt(2, 0, 102);
        s.logWith(0, MONTH, 2 * MONTH).move(1, true).crash(0, 0, true).rows(0, 1).rows(1, 1).rows(2, 0)
            .reopen(3).byteAt(2, 0, 102).same(true);
        s.logWith(0, MONTH).move(0, true).group(MONTH, 9).sizes(36).move(0, false).move(1, true).sizes(0)
            .reopen(3).byteAt(2, 0, 9);
    }

    private static void moveWholeGroups(Sentence s) {
        s.log().put(MONTH - 1, 0, 1).put(MONTH - 1, 1, 2).endGroup(true).move(0, true).sizes(0);
        s.log().put(MONTH - 1, 0, 1).put(MONTH, 1, 2).endGroup(true).move(0, false).sizes(30).move(1, true).sizes(0);
        s.logWith(0).put(MONTH - 1, 0, 1).put(MONTH, 1, 2).endGroup(true).group(MONTH, 3).move(0, true).sizes(48)
            .crash(0, 0, true).rows(0, 1).reopen(4).move(1, true).sizes(0).rows(0, 2).rows(1, 2);
        rowsInGroup(s.log(), 15).put(MONTH, 15, 1).endGroup(true).move(0, false).move(1, true).sizes(0).rows(0, 15);
    }

    private static void moveOfNothing(Sentence s) {
        s.log().move(0, false).move(MAX, false).feed(1, true).move(MAX, false).row(0, 0).endGroup(true)
            .move(MAX, true).move(MAX, false).reopen(1).move(MAX, false);
        s.logWith(0).pokeBoth(0, 1).reopen(0).move(MAX, false);
    }

    private static void moveWhenShut(Sentence s) {
        s.logWith(0).crash(0, 18, true).same(true).move(0, false).reopen(1).move(0, true).crash(0, 0, true)
            .move(0, false).rows(0, 1);
    }

    private static void moveWithARow(Sentence s) {
        s.logWith(0).feed(1, true).row(0, 0).move(0, false).sizes(18).rows(0, 1).endGroup(true).move(0, true).sizes(0);
        s.logWith(0).feed(1, true).move(0, true).sizes(0).row(0, 0).move(0, false).reopen(1).move(0, false);
        s.logWith(0).feed(1, true).row(-1, NONE).move(0, true).row(0, 0);
    }

    private static void moveOfOtherFiles(Sentence s) {
        for (int f = 0; f < 2; f++) {
            for (int place : new int[] {0, 17, 18, 35}) {
                s.logWith(0, MONTH).poke(f, place, 1, true).move(0, false).move(1, false).sizes(36)
                    .poke(f, place, 1, true).move(0, true).sizes(18);
                s.logWith(0, MONTH).poke(f, place, 128, true).move(0, false).reopen(2).move(0, true).sizes(18);
            }
        }
    }

    private static void rowsOfAMonth(Sentence s) {
        s.log().rows(0, 0).groups(0, MONTH - 1, MONTH).rows(-1, 0).rows(0, 2).rows(1, 1).rows(2, 0);
        s.logWith(385 * MONTH - 1, 385 * MONTH, LAST).rows(383, 0).rows(384, 1).rows(385, 2).rows(386, 0);
        s.log().groupOf(16, 0).groupOf(16, 0).rows(0, 32).rows(1, 0);
    }

    private static void rowsOfFarMonths(Sentence s) {
        for (int far : new int[] {1656, 1657, 1658, WRAPPING, WRAPPING + 1, MAX, -1657, -1656, -WRAPPING, MIN + 1, MIN}) {
            s.logWith(0, MONTH, LAST).rows(far, 0);
        }
    }

    private static void rowsThatAreKnown(Sentence s) {
        s.log().feed(1, true).rows(0, 0).row(0, 0).rows(0, 0).endGroup(true).rows(0, 1).move(0, true).rows(0, 1)
            .group(0, 2).rows(0, 2).crash(0, 0, true).rows(0, 1).reopen(2).rows(0, 2).pokeBoth(0, 1).rows(0, 2)
            .reopen(1).rows(0, 1);
    }

    private static void sameWhenEmpty(Sentence s) {
        s.log().same(true).feed(1, true).same(true).row(0, 0).same(true).endGroup(true).same(true)
            .move(0, true).same(true).crash(0, 0, true).same(true);
        s.logWith(0).crash(0, 0, true).same(false).crash(1, 0, true).same(true);
    }

    private static void sameByteByByte(Sentence s) {
        for (int f = 0; f < 2; f++) {
            for (int place : new int[] {0, 8, 17}) {
                s.logWith(0).poke(f, place, 1, true).same(false).poke(f, place, 1, true).same(true)
                    .poke(f, place, 128, true).same(false).poke(1 - f, place, 128, true).same(true);
            }
        }
        s.logWith(0, 1).poke(0, 20, 1, true).same(false).crash(0, 20, true).crash(1, 20, true).same(true);
        s.logWith(0, 1).poke(0, 20, 1, true).crash(0, 21, true).crash(1, 21, true).same(false);
    }

    private static void sameSize(Sentence s) {
        for (int f = 0; f < 2; f++) {
            s.logWith(0).crash(f, 18, true).same(true).crash(f, 17, true).same(false).crash(1 - f, 17, true).same(true)
                .crash(1 - f, 0, true).same(false).crash(f, 1, true).same(false).crash(f, 0, true).same(true);
        }
    }
}
