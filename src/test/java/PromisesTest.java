/** Each promise of the document: ordinary inputs, the edges that it names, and wrong inputs. */
final class PromisesTest {
    private static final int MONTH = 2_592_000;
    private static final int[] WRONG_FILES = {-1, 2, Integer.MIN_VALUE, Integer.MAX_VALUE};
    private static final Check CHECK = new Check();

    public static void main(String[] args) {
        newObject();
        feed();
        row();
        rowFull();
        endGroup();
        crash();
        shutLog();
        reopen();
        reopenTakesEitherFile();
        byteAt();
        poke();
        repaired();
        badAt();
        move();
        moveRefused();
        moveOfAlteredFiles();
        rows();
        same();
        formOfFiles();
        formOfGroupEnds();
        groupThatIsNotWhole();
        numbersThatFollow();
        secondsThatFollow();
        rowsInAGroup();
        lengthsOfContents();
        CHECK.finish("PromisesTest");
    }

    private static void due(String what, long got, long want) {
        CHECK.due(what, got, want);
    }

    private static void due(String what, boolean got, boolean want) {
        CHECK.due(what, got, want);
    }

    private static void putRow(MirrorLog log, int second, int... contents) {
        for (int b : contents) {
            due("feed for a row", log.feed(b), true);
        }
        due("row taken", log.row(second) >= 0, true);
    }

    private static void putGroup(MirrorLog log, int second, int... contents) {
        putRow(log, second, contents);
        due("group ended", log.endGroup(), true);
    }

    /** A log with groups of one row with one byte: 18 bytes each in a file. */
    private static MirrorLog logWith(int... seconds) {
        MirrorLog log = new MirrorLog();
        for (int i = 0; i < seconds.length; i++) {
            putGroup(log, seconds[i], 100 + i);
        }
        return log;
    }

    /** Alters a file that has the old bytes, so that it has the new ones. */
    private static void forge(MirrorLog log, int file, byte[] old, byte[] wanted) {
        due("bytes to forge", old.length, wanted.length);
        for (int i = 0; i < old.length; i++) {
            int mask = (old[i] ^ wanted[i]) & 255;
            if (mask != 0) {
                due("poke to forge", log.poke(file, i, mask), true);
            }
        }
    }

    private static void newObject() {
        MirrorLog log = new MirrorLog();
        due("1: same", log.same(), true);
        due("1: rows", log.rows(0), 0);
        due("1: repaired", log.repaired(), 0);
        due("1: badAt", log.badAt(), MirrorLog.NONE);
        due("1: poke into an empty file 0", log.poke(0, 0, 1), false);
        due("1: poke into an empty file 1", log.poke(1, 0, 1), false);
        CHECK.dueOutside("1: byteAt", log, 0, 0);
        due("1: endGroup", log.endGroup(), false);
        due("1: move", log.move(1000), false);
        due("1: row without contents", log.row(0), MirrorLog.NONE);
        due("1: it is open", log.feed(0), true);
        due("1: NONE", MirrorLog.NONE, -1);
        due("1: FULL", MirrorLog.FULL, -2);
    }

    private static void feed() {
        MirrorLog log = new MirrorLog();
        for (int wrong : new int[] {-1, 256, Integer.MIN_VALUE, Integer.MAX_VALUE}) {
            due("2: feed " + wrong, log.feed(wrong), false);
        }
        due("2: a refused byte is not fed", log.row(0), MirrorLog.NONE);
        for (int i = 0; i < 64; i++) {
            due("2: feed " + i, log.feed(255 - i), true);
        }
        due("2: a 65th", log.feed(1), false);
        due("2: row", log.row(0), 0);
        due("2: feed behind a row", log.feed(0), true);
        due("2: endGroup", log.endGroup(), true);
        for (int i = 0; i < 64; i++) {
            due("2: byte " + i, log.byteAt(0, i), 255 - i);
        }
        due("2: only 64", log.byteAt(0, 64), MirrorLog.NONE);
        due("2: feed goes on behind endGroup", log.feed(7), true);
        due("2: row of both bytes", log.row(0), 0);
        due("2: endGroup", log.endGroup(), true);
        due("2: byte fed before endGroup", log.byteAt(1, 0), 0);
        due("2: byte fed behind endGroup", log.byteAt(1, 1), 7);
        due("2: no third", log.byteAt(1, 2), MirrorLog.NONE);
    }

    private static void row() {
        MirrorLog log = new MirrorLog();
        due("3: nothing fed", log.row(5), MirrorLog.NONE);
        due("3: feed", log.feed(9), true);
        for (int wrong : new int[] {-1, 1_000_000_001, Integer.MIN_VALUE, Integer.MAX_VALUE}) {
            due("3: second " + wrong, log.row(wrong), MirrorLog.NONE);
        }
        due("3: contents stay when refused", log.row(0), 0);
        due("3: contents are used up", log.row(0), MirrorLog.NONE);
        putRow(log, 10, 1);
        due("3: feed", log.feed(2), true);
        due("3: below the last of the group", log.row(9), MirrorLog.NONE);
        due("3: the same second", log.row(10), 2);
        due("3: endGroup", log.endGroup(), true);
        due("3: feed", log.feed(3), true);
        due("3: below the last known", log.row(9), MirrorLog.NONE);
        due("3: numbers of a new group", log.row(1_000_000_000), 0);
        due("3: feed", log.feed(4), true);
        due("3: below the last of the group, not of those known", log.row(999_999_999), MirrorLog.NONE);
        due("3: last second", log.row(1_000_000_000), 1);
    }

    private static void rowFull() {
        MirrorLog log = new MirrorLog();
        for (int i = 0; i < 16; i++) {
            due("3: feed", log.feed(i), true);
            due("3: row of the group", log.row(50), i);
        }
        due("3: nothing fed comes before full", log.row(50), MirrorLog.NONE);
        due("3: feed", log.feed(77), true);
        due("3: a wrong second comes before full", log.row(49), MirrorLog.NONE);
        due("3: full", log.row(50), MirrorLog.FULL);
        due("3: endGroup", log.endGroup(), true);
        due("3: contents stayed", log.row(50), 0);
        due("3: endGroup", log.endGroup(), true);
        due("3: byte", log.byteAt(16, 0), 77);
        due("3: one byte", log.byteAt(16, 1), MirrorLog.NONE);
    }

    private static void endGroup() {
        MirrorLog log = new MirrorLog();
        due("4: no rows", log.endGroup(), false);
        due("4: feed", log.feed(5), true);
        due("4: contents are no row", log.endGroup(), false);
        due("4: row", log.row(3), 0);
        CHECK.dueOutside("4: not known before the end", log, 0, 0);
        due("4: no row known before the end", log.rows(0), 0);
        due("4: nothing in file 0 before the end", log.poke(0, 0, 1), false);
        due("4: endGroup", log.endGroup(), true);
        due("4: known", log.byteAt(0, 0), 5);
        due("4: rows", log.rows(0), 1);
        due("4: the group has ended", log.endGroup(), false);
        due("4: files", log.same(), true);
        for (int f = 0; f < 2; f++) {
            due("4: last byte", log.poke(f, 17, 1), true);
            due("4: last byte back", log.poke(f, 17, 1), true);
            due("4: no more bytes", log.poke(f, 18, 1), false);
        }
        due("4: both hold it", log.reopen(), 1);
        due("4: nothing to put right", log.repaired(), 0);
    }

    private static void crash() {
        MirrorLog log = logWith(0, 1);
        for (int wrong : WRONG_FILES) {
            due("5: file " + wrong, log.crash(wrong, 0), false);
        }
        for (int wrong : new int[] {-1, 37, Integer.MIN_VALUE, Integer.MAX_VALUE}) {
            due("5: kept " + wrong, log.crash(0, wrong), false);
            due("5: kept " + wrong, log.crash(1, wrong), false);
        }
        due("5: a refused crash does not shut", log.feed(1), true);
        due("5: nor forget", log.byteAt(1, 0), 101);
        due("5: all kept", log.crash(1, 36), true);
        due("5: a crash that cuts nothing shuts", log.feed(1), false);
        due("5: files stay the same", log.same(), true);
        due("5: crash of a shut log", log.crash(0, 20), true);
        due("5: the cut file", log.poke(0, 20, 1), false);
        due("5: the other file is whole", log.poke(1, 35, 1), true);
        due("5: not more than it has now", log.crash(0, 21), false);
        due("5: to nothing", log.crash(0, 0), true);
        due("5: to nothing again", log.crash(0, 0), true);
        due("5: not beyond nothing", log.crash(0, 1), false);
    }

    private static void shutLog() {
        MirrorLog log = logWith(0, MONTH);
        due("5: move", log.move(0), true);
        putRow(log, MONTH, 55);
        due("5: feed", log.feed(66), true);
        due("5: crash", log.crash(0, 18), true);
        due("5: shut: feed", log.feed(1), false);
        due("5: shut: row", log.row(MONTH), MirrorLog.NONE);
        due("5: shut: endGroup", log.endGroup(), false);
        due("5: shut: move", log.move(5), false);
        due("5: moved rows stay known", log.byteAt(0, 0), 100);
        CHECK.dueOutside("5: others do not", log, 1, 0);
        due("5: moved month", log.rows(0), 1);
        due("5: other month", log.rows(1), 0);
        due("5: poke of a shut log", log.poke(0, 0, 1), true);
        due("5: same of a shut log", log.same(), false);
        due("5: reopen", log.reopen(), 2);
        due("5: the group that had not ended is gone", log.endGroup(), false);
        due("5: the contents too", log.row(MONTH), MirrorLog.NONE);
    }

    private static void reopen() {
        MirrorLog log = new MirrorLog();
        due("6: empty", log.reopen(), 0);
        putRow(log, 4, 1);
        putRow(log, 4, 2, 3);
        due("6: endGroup", log.endGroup(), true);
        putGroup(log, 6, 4);
        putRow(log, 7, 5);
        due("6: feed", log.feed(6), true);
        due("6: reopen of an open log", log.reopen(), 3);
        due("6: contents go", log.row(7), MirrorLog.NONE);
        due("6: rows of the group go", log.endGroup(), false);
        due("6: byte", log.byteAt(1, 1), 3);
        due("6: byte", log.byteAt(2, 0), 4);
        due("6: rows of the group do not hold the second", log.feed(8), true);
        due("6: but those known do", log.row(5), MirrorLog.NONE);
        due("6: row", log.row(6), 0);
        due("6: endGroup", log.endGroup(), true);
        due("6: reopen", log.reopen(), 4);
        due("6: reopen again", log.reopen(), 4);
        due("6: byte", log.byteAt(3, 0), 8);
        due("6: move", log.move(0), true);
        due("6: moved rows count", log.reopen(), 4);
        putGroup(log, 6, 9);
        due("6: numbers go on behind moved rows", log.reopen(), 5);
        due("6: crash", log.crash(0, 0), true);
        due("6: crash", log.crash(1, 0), true);
        due("6: only moved rows", log.reopen(), 4);
        due("6: the last moved row holds the second", log.feed(1), true);
        due("6: below it", log.row(5), MirrorLog.NONE);
    }

    private static void reopenTakesEitherFile() {
        MirrorLog log = logWith(0, 1, 2, 3);
        due("6: first group bad in file 0", log.poke(0, 3, 64), true);
        due("6: third group bad in file 1", log.poke(1, 36 + 5, 1), true);
        due("6: fourth cut in file 1", log.crash(1, 60), true);
        due("6: all are kept", log.reopen(), 4);
        due("6: put right", log.repaired(), 3);
        due("6: nothing bad", log.badAt(), MirrorLog.NONE);
        due("6: files", log.same(), true);
        for (int i = 0; i < 4; i++) {
            due("6: byte", log.byteAt(i, 0), 100 + i);
        }
        due("6: second group bad in file 0", log.poke(0, 20, 1), true);
        due("6: second group bad in file 1", log.poke(1, 35, 1), true);
        due("6: it ends there", log.reopen(), 1);
        due("6: bad place", log.badAt(), 18);
        due("6: the rest of file 0 goes", log.poke(0, 18, 1), false);
        due("6: the rest of file 1 goes", log.poke(1, 18, 1), false);
        putGroup(log, 0, 50);
        due("6: it goes on there", log.reopen(), 2);
        due("6: byte", log.byteAt(1, 0), 50);
    }

    private static void byteAt() {
        MirrorLog log = new MirrorLog();
        CHECK.dueOutside("7: no rows", log, 0, 0);
        putRow(log, 0, 0, 128, 255);
        putRow(log, 0, 7);
        due("7: endGroup", log.endGroup(), true);
        due("7: byte 0", log.byteAt(0, 0), 0);
        due("7: byte 1", log.byteAt(0, 1), 128);
        due("7: byte 2", log.byteAt(0, 2), 255);
        due("7: row 1", log.byteAt(1, 0), 7);
        for (int wrong : new int[] {-1, 3, 64, Integer.MIN_VALUE, Integer.MAX_VALUE}) {
            due("7: byte " + wrong, log.byteAt(0, wrong), MirrorLog.NONE);
        }
        due("7: not a byte of the next row", log.byteAt(1, 1), MirrorLog.NONE);
        for (int wrong : new int[] {-1, 2, 600, Integer.MIN_VALUE, Integer.MAX_VALUE}) {
            CHECK.dueOutside("7: row " + wrong, log, wrong, 0);
            CHECK.dueOutside("7: row " + wrong, log, wrong, -1);
        }
        putRow(log, 0, 9);
        CHECK.dueOutside("7: a row of a group that has not ended", log, 2, 0);
        due("7: poke", log.poke(0, 5, 1), true);
        due("7: poke", log.poke(1, 5, 1), true);
        due("7: what is known is not what the files have", log.byteAt(0, 0), 0);
    }

    private static void poke() {
        MirrorLog log = logWith(0);
        for (int wrong : WRONG_FILES) {
            due("8: file " + wrong, log.poke(wrong, 0, 1), false);
        }
        for (int wrong : new int[] {-1, 18, 8192, Integer.MIN_VALUE, Integer.MAX_VALUE}) {
            due("8: place " + wrong, log.poke(0, wrong, 1), false);
        }
        for (int wrong : new int[] {0, -1, 256, 257, Integer.MIN_VALUE, Integer.MAX_VALUE}) {
            due("8: mask " + wrong, log.poke(1, 0, wrong), false);
        }
        due("8: refused pokes alter nothing", log.same(), true);
        due("8: lowest mask", log.poke(0, 0, 1), true);
        due("8: files differ", log.same(), false);
        due("8: back again", log.poke(0, 0, 1), true);
        due("8: files are the same", log.same(), true);
        due("8: highest mask, last place", log.poke(1, 17, 255), true);
        due("8: files differ", log.same(), false);
        due("8: bit by bit in the other file", log.poke(0, 17, 240), true);
        due("8: still", log.same(), false);
        due("8: the other bits", log.poke(0, 17, 15), true);
        due("8: files are the same", log.same(), true);
        for (int place = 0; place < 18; place++) {
            for (int mask = 1; mask < 256; mask *= 2) {
                oneBitIsSeen(place, mask);
            }
        }
    }

    private static void oneBitIsSeen(int place, int mask) {
        MirrorLog log = logWith(5);
        String what = "8: byte " + place + " mask " + mask;
        due(what, log.poke(1, place, mask), true);
        due(what, log.reopen(), 1);
        due(what, log.repaired(), 1);
        due(what, log.poke(0, place, mask), true);
        due(what, log.poke(1, place, mask), true);
        due(what, log.reopen(), 0);
        due(what, log.badAt(), 0);
    }

    private static void repaired() {
        MirrorLog log = logWith(0, 1, 2);
        due("9: before", log.repaired(), 0);
        due("9: poke", log.poke(1, 0, 1), true);
        due("9: poke", log.poke(0, 40, 1), true);
        due("9: not by poke", log.repaired(), 0);
        due("9: reopen", log.reopen(), 3);
        due("9: two groups", log.repaired(), 2);
        due("9: crash", log.crash(0, 36), true);
        due("9: of the last opening until the next", log.repaired(), 2);
        due("9: reopen", log.reopen(), 3);
        due("9: one", log.repaired(), 1);
        due("9: reopen", log.reopen(), 3);
        due("9: none", log.repaired(), 0);
        due("9: crash", log.crash(0, 36), true);
        due("9: crash", log.crash(1, 36), true);
        due("9: reopen", log.reopen(), 2);
        due("9: what both lack is not put right", log.repaired(), 0);
    }

    private static void badAt() {
        MirrorLog log = logWith(0, 1, 2);
        due("10: before", log.badAt(), MirrorLog.NONE);
        due("10: crash", log.crash(0, 20), true);
        due("10: crash", log.crash(1, 18), true);
        due("10: before", log.badAt(), MirrorLog.NONE);
        due("10: reopen", log.reopen(), 1);
        due("10: bytes of file 0 only", log.badAt(), 18);
        due("10: reopen", log.reopen(), 1);
        due("10: they went", log.badAt(), MirrorLog.NONE);
        due("10: crash", log.crash(0, 0), true);
        due("10: crash", log.crash(1, 17), true);
        due("10: until the next opening", log.badAt(), MirrorLog.NONE);
        due("10: reopen", log.reopen(), 0);
        due("10: bytes of file 1 only", log.badAt(), 0);
        due("10: reopen", log.reopen(), 0);
        due("10: empty files", log.badAt(), MirrorLog.NONE);

        MirrorLog behind = logWith(0, 1, 2);
        due("10: poke", behind.poke(0, 19, 8), true);
        due("10: poke", behind.poke(1, 19, 8), true);
        due("10: reopen", behind.reopen(), 1);
        due("10: a good group behind a bad one goes", behind.badAt(), 18);

        MirrorLog whole = logWith(0, 1);
        due("10: crash", whole.crash(0, 18), true);
        due("10: crash", whole.crash(1, 18), true);
        due("10: reopen", whole.reopen(), 1);
        due("10: cut between groups", whole.badAt(), MirrorLog.NONE);
    }

    private static void move() {
        MirrorLog log = new MirrorLog();
        due("11: nothing", log.move(Integer.MAX_VALUE), false);
        putGroup(log, MONTH - 1, 1);
        putRow(log, MONTH, 2);
        putRow(log, 2 * MONTH, 3);
        due("11: endGroup", log.endGroup(), true);
        putGroup(log, 2 * MONTH, 4);
        putGroup(log, 5 * MONTH, 5);
        due("11: below", log.move(-1), false);
        due("11: far below", log.move(Integer.MIN_VALUE), false);
        due("11: first group", log.move(0), true);
        due("11: once", log.move(0), false);
        due("11: it went out of file 0", log.poke(0, 18 + 18 + 30, 1), false);
        due("11: not more of file 0", log.poke(0, 18 + 18 + 30 - 1, 1), true);
        due("11: back", log.poke(0, 18 + 18 + 30 - 1, 1), true);
        due("11: a group with a later row stays", log.move(1), false);
        due("11: feed", log.feed(6), true);
        due("11: contents do not hinder; two groups", log.move(3), true);
        due("11: contents stay", log.row(5 * MONTH), 0);
        due("11: endGroup", log.endGroup(), true);
        due("11: all rows known", log.rows(0) + log.rows(1) + log.rows(2) + log.rows(5), 6);
        due("11: crash", log.crash(0, 0), true);
        due("11: crash", log.crash(1, 0), true);
        due("11: moved rows stand in no file", log.reopen(), 4);
        for (int i = 0; i < 4; i++) {
            due("11: moved byte", log.byteAt(i, 0), i + 1);
        }
        putGroup(log, 1_000_000_000, 7);
        due("11: month of the last second, less one", log.move(384), false);
        due("11: month of the last second", log.move(385), true);
        due("11: reopen", log.reopen(), 5);
        due("11: no bytes", log.badAt(), MirrorLog.NONE);
    }

    private static void moveRefused() {
        MirrorLog log = logWith(0, 1);
        putRow(log, 2, 9);
        due("11: a row in the group", log.move(0), false);
        due("11: endGroup", log.endGroup(), true);
        due("11: poke", log.poke(1, 50, 1), true);
        due("11: files not the same", log.move(0), false);
        due("11: back", log.poke(1, 50, 1), true);
        due("11: crash", log.crash(0, 54), true);
        due("11: shut", log.move(0), false);
        due("11: reopen", log.reopen(), 3);
        due("11: move", log.move(0), true);
    }

    /** Files that were altered alike are the same, and what is known goes out, not what they have. */
    private static void moveOfAlteredFiles() {
        MirrorLog log = logWith(0, 1, MONTH);
        for (int f = 0; f < 2; f++) {
            due("11: poke the length", log.poke(f, 0, 2), true);
            due("11: poke the third group", log.poke(f, 36 + 5, 1), true);
        }
        due("11: move", log.move(0), true);
        due("11: known byte", log.byteAt(0, 0), 100);
        due("11: size", log.poke(0, 18, 1), false);
        due("11: third group is the bad one", log.reopen(), 2);
        due("11: bad place", log.badAt(), 0);
    }

    private static void rows() {
        MirrorLog log = new MirrorLog();
        putRow(log, 0, 1);
        putRow(log, MONTH - 1, 2);
        putRow(log, MONTH, 3);
        due("12: not before the end", log.rows(0), 0);
        due("12: endGroup", log.endGroup(), true);
        putGroup(log, 1_000_000_000, 4);
        due("12: month 0", log.rows(0), 2);
        due("12: month 1", log.rows(1), 1);
        due("12: month 2", log.rows(2), 0);
        due("12: the last month", log.rows(385), 1);
        for (int wrong : new int[] {-1, 386, Integer.MIN_VALUE, Integer.MAX_VALUE}) {
            due("12: month " + wrong, log.rows(wrong), 0);
        }
        due("12: move", log.move(385), true);
        due("12: moved rows", log.rows(0), 2);
        due("12: moved rows", log.rows(385), 1);
    }

    private static void same() {
        MirrorLog log = logWith(0, 1);
        due("13: two groups", log.same(), true);
        due("13: crash of file 1", log.crash(1, 35), true);
        due("13: another size", log.same(), false);
        due("13: crash of file 0", log.crash(0, 34), true);
        due("13: another size", log.same(), false);
        due("13: crash of file 1", log.crash(1, 34), true);
        due("13: the same again", log.same(), true);
        due("13: poke", log.poke(0, 33, 128), true);
        due("13: other bytes", log.same(), false);
        due("13: reopen", log.reopen(), 1);
        due("13: the same behind reopen", log.same(), true);
        due("13: poke", log.poke(0, 0, 1), true);
        putGroup(log, 3, 1);
        due("13: endGroup does not hide it", log.same(), false);
    }

    /** A row, its number, its second and the sums stand as the terms say: a forged group is taken. */
    private static void formOfFiles() {
        MirrorLog log = new MirrorLog();
        putRow(log, 0x01020304, 10, 20, 30);
        putRow(log, 0x05060708, 40);
        due("6: endGroup", log.endGroup(), true);
        byte[] old = new Image().row(0, 0x01020304, 10, 20, 30).row(1, 0x05060708, 40).end().bytes();
        byte[] wanted = new Image().row(0, 0x02020304, 99).row(1, 0x02020305, 50, 60, 255).end().bytes();
        forge(log, 0, old, wanted);
        due("6: not the same", log.same(), false);
        due("6: good in both, taken from file 0", log.reopen(), 2);
        due("6: file 1 is put right", log.repaired(), 1);
        due("6: forged byte", log.byteAt(0, 0), 99);
        due("6: forged length", log.byteAt(0, 1), MirrorLog.NONE);
        due("6: forged byte", log.byteAt(1, 2), 255);
        due("6: forged month", log.rows(0x02020304 / MONTH), 2);
        forge(log, 1, wanted, old);
        due("6: good in both, taken from file 0", log.reopen(), 2);
        due("6: forged byte", log.byteAt(0, 0), 99);
        forge(log, 1, wanted, old);
        due("6: crash", log.crash(0, old.length - 1), true);
        due("6: taken from file 1", log.reopen(), 2);
        due("6: byte", log.byteAt(0, 0), 10);
        due("6: month", log.rows(0x05060708 / MONTH), 1);
        due("6: same", log.same(), true);
    }

    private static void formOfGroupEnds() {
        byte[] old = new Image().row(0, 1, 2).row(1, 1, 3).end().bytes();
        for (int count : new int[] {0, 1, 3, 255}) {
            MirrorLog log = new MirrorLog();
            putRow(log, 1, 2);
            putRow(log, 1, 3);
            due("6: endGroup", log.endGroup(), true);
            byte[] bad = new Image().row(0, 1, 2).row(1, 1, 3).end(0, count).bytes();
            forge(log, 0, old, bad);
            forge(log, 1, old, bad);
            due("6: two rows told as " + count, log.reopen(), 0);
            due("6: bad place", log.badAt(), 0);
        }
        noRowsAreNoGroup();
        MirrorLog two = new MirrorLog();
        putGroup(two, 1, 1, 2, 3, 4, 5, 6, 7);
        putGroup(two, 1, 8);
        byte[] before = new Image().row(0, 1, 1, 2, 3, 4, 5, 6, 7).end().row(1, 1, 8).end().bytes();
        byte[] one = new Image().row(0, 1, 1, 2, 3, 4, 5, 6, 7).row(1, 1, 1, 2, 3, 4, 5, 6, 7).end().bytes();
        due("6: crash", two.crash(0, 10), true);
        forge(two, 1, before, one);
        due("6: one group where two were", two.reopen(), 2);
        due("6: one group put right", two.repaired(), 1);
        due("6: byte", two.byteAt(1, 6), 7);
        due("6: move", two.move(0), true);
        due("6: the whole group went", two.poke(0, 0, 1), false);
    }

    /** The end of a group alone, its sum right, is none. */
    private static void noRowsAreNoGroup() {
        MirrorLog log = logWith(1);
        due("6: crash", log.crash(1, 0), true);
        due("6: crash", log.crash(0, 6), true);
        byte[] old = java.util.Arrays.copyOf(new Image().row(0, 1, 100).end().bytes(), 6);
        forge(log, 0, old, new Image().end().bytes());
        due("6: no rows", log.reopen(), 0);
        due("6: bad place", log.badAt(), 0);

        MirrorLog behind = logWith(1, 1);
        due("6: crash", behind.crash(1, 0), true);
        due("6: crash", behind.crash(0, 24), true);
        byte[] two = new Image().row(0, 1, 100).end().row(1, 1, 101).end().bytes();
        int groupSum = java.nio.ByteBuffer.wrap(two).getInt(14);
        byte[] empty = new Image().row(0, 1, 100).end().end(0, 0, groupSum).bytes();
        forge(behind, 0, java.util.Arrays.copyOf(two, 24), empty);
        due("6: no rows behind a good group", behind.reopen(), 1);
        due("6: bad place", behind.badAt(), 18);
    }

    /** What a file lacks is not read as a byte 0 or 255: a group whose last byte is that is missed too. */
    private static void groupThatIsNotWhole() {
        int tried = 0;
        for (int i = 0; i < 8192; i++) {
            byte[] whole = new Image().row(0, i >> 8, i & 255).end().bytes();
            int last = whole[17] & 255;
            if (last != 0 && last != 255) {
                continue;
            }
            tried |= last == 0 ? 1 : 2;
            MirrorLog log = new MirrorLog();
            putGroup(log, i >> 8, i & 255);
            due("6: crash", log.crash(0, 17), true);
            due("6: crash", log.crash(1, 17), true);
            due("6: the last byte is missing, " + last, log.reopen(), 0);
            due("6: bad place", log.badAt(), 0);
        }
        due("6: both last bytes were tried", tried, 3);
    }

    private static void dueBad(String what, byte[] old, byte[] bad, int kept) {
        MirrorLog log = logWith(10, 20, 30);
        forge(log, 0, old, bad);
        forge(log, 1, old, bad);
        due(what, log.reopen(), kept);
        due(what, log.badAt(), kept == 3 ? MirrorLog.NONE : 18 * kept);
    }

    private static byte[] threeGroups(int[] numbers, int[] seconds) {
        Image image = new Image();
        for (int i = 0; i < 3; i++) {
            image.row(numbers[i], seconds[i], 100 + i).end();
        }
        return image.bytes();
    }

    private static void numbersThatFollow() {
        int[] seconds = {10, 20, 30};
        byte[] old = threeGroups(new int[] {0, 1, 2}, seconds);
        dueBad("6: numbers that follow", old, old, 3);
        dueBad("6: first number 1", old, threeGroups(new int[] {1, 2, 3}, seconds), 0);
        dueBad("6: a number again", old, threeGroups(new int[] {0, 0, 1}, seconds), 1);
        dueBad("6: a number left out", old, threeGroups(new int[] {0, 1, 3}, seconds), 2);
        dueBad("6: a number's higher byte", old, threeGroups(new int[] {0, 257, 2}, seconds), 1);
    }

    private static void secondsThatFollow() {
        int[] numbers = {0, 1, 2};
        byte[] old = threeGroups(numbers, new int[] {10, 20, 30});
        dueBad("6: second below", old, threeGroups(numbers, new int[] {10, 9, 30}), 1);
        dueBad("6: the same second", old, threeGroups(numbers, new int[] {20, 20, 20}), 3);
        dueBad("6: the last second", old, threeGroups(numbers, new int[] {10, 20, 1_000_000_000}), 3);
        dueBad("6: beyond the last second", old, threeGroups(numbers, new int[] {10, 20, 1_000_000_001}), 2);
        dueBad("6: highest bit", old, threeGroups(numbers, new int[] {0x80000000, 20, 30}), 0);

        MirrorLog log = new MirrorLog();
        putRow(log, 5, 1);
        putRow(log, 5, 2);
        due("6: endGroup", log.endGroup(), true);
        byte[] both = new Image().row(0, 5, 1).row(1, 5, 2).end().bytes();
        byte[] below = new Image().row(0, 5, 1).row(1, 4, 3).end().bytes();
        forge(log, 0, both, below);
        due("6: reopen", log.reopen(), 2);
        due("6: below within a group: from file 1", log.byteAt(1, 0), 2);
        due("6: put right", log.repaired(), 1);

        MirrorLog moved = logWith(50, 60 + MONTH);
        due("6: move", moved.move(0), true);
        byte[] left = new Image().row(1, 60 + MONTH, 101).end().bytes();
        forge(moved, 0, left, new Image().row(1, 49, 1).end().bytes());
        forge(moved, 1, left, new Image().row(1, 50, 2).end().bytes());
        due("6: not below the last moved row", moved.reopen(), 2);
        due("6: so from file 1", moved.byteAt(1, 0), 2);
    }

    private static void rowsInAGroup() {
        MirrorLog log = new MirrorLog();
        Image old = new Image();
        for (int i = 0; i < 16; i++) {
            putRow(log, 1, i);
            old.row(i, 1, i);
        }
        due("6: endGroup", log.endGroup(), true);
        old.end().row(16, 1, 20).row(17, 1, 21).end();
        putRow(log, 1, 20);
        putRow(log, 1, 21);
        due("6: endGroup", log.endGroup(), true);
        due("6: 16 rows are good", log.reopen(), 18);
        Image wanted = new Image().row(0, 1, new int[19]);
        for (int i = 1; i < 17; i++) {
            wanted.row(i, 1, i);
        }
        due("6: crash", log.crash(1, 0), true);
        forge(log, 0, old.bytes(), wanted.end().bytes());
        due("6: 17 rows are not", log.reopen(), 0);
        due("6: bad place", log.badAt(), 0);
        noByte0BehindTheRows();
    }

    private static void noByte0BehindTheRows() {
        MirrorLog log = new MirrorLog();
        Image old = new Image();
        Image wanted = new Image();
        for (int i = 0; i < 16; i++) {
            putRow(log, 1, i);
            old.row(i, 1, i);
            wanted.row(i, 1, i);
        }
        due("6: endGroup", log.endGroup(), true);
        byte[] bad = wanted.end(1, 16).bytes();
        byte[] good = old.end().bytes();
        forge(log, 0, good, bad);
        forge(log, 1, good, bad);
        due("6: no byte 0 behind 16 rows", log.reopen(), 0);
    }

    private static void lengthsOfContents() {
        for (int length = 64; length < 67; length++) {
            MirrorLog log = new MirrorLog();
            int[] first = new int[60];
            int[] second = new int[length + 11 - first.length];
            putRow(log, 1, first);
            putRow(log, 1, second);
            due("6: endGroup", log.endGroup(), true);
            byte[] old = new Image().row(0, 1, first).row(1, 1, second).end().bytes();
            byte[] wanted = new Image().row(0, 1, new int[length]).row(1, 1, new int[11]).end().bytes();
            due("6: crash", log.crash(1, 0), true);
            forge(log, 0, old, wanted);
            due("6: contents of " + length, log.reopen(), length > 64 ? 0 : 2);
        }
    }
}
