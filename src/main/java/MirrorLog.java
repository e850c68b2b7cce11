/**
 * Rows in two files that hold the same groups, so that what one file loses is taken from the other
 * when the log is opened again.
 */
public final class MirrorLog {
    public static final int NONE = -1;
    public static final int FULL = -2;

    private static final int MOST_FILE_BYTES = 8192;
    private static final int MOST_ROWS = 600;
    private static final int MOST_CONTENTS = 64;
    private static final int MOST_GROUP_ROWS = 16;
    private static final int LAST_SECOND = 1000000000;
    private static final int SECONDS_OF_MONTH = 2592000;

    private static final int SECOND_BYTES = 4;
    private static final int NUMBER_BYTES = 2;
    private static final int SUM_BYTES = 4;
    /** What a row takes in a file beside its contents: length, second, number and sum. */
    private static final int ROW_FRAME = 1 + SECOND_BYTES + NUMBER_BYTES + SUM_BYTES;
    /** What a group takes in a file beside its rows: a byte 0, the number of rows and a sum. */
    private static final int GROUP_FRAME = 2 + SUM_BYTES;

    private final LogFile file0;
    private final LogFile file1;
    /** The moved rows, then the known ones of the files, then those of the group that has not ended. */
    private final RowTable table;
    private final byte[] fed;
    private int fedCount;
    private int moved;
    private int known;
    private boolean shut;
    private int repairedGroups;
    private int badPlace;

    public MirrorLog() {
        file0 = new LogFile();
        file1 = new LogFile();
        table = new RowTable();
        fed = new byte[MOST_CONTENTS];
        badPlace = NONE;
    }

    public boolean feed(int b) {
        if (shut || b < 0 || b > 255 || fedCount < 0 || fedCount >= fed.length) {
            return false;
        }
        fed[fedCount] = (byte) b;
        fedCount++;
        return true;
    }

    public int row(int second) {
        if (shut || fedCount == 0 || second > LAST_SECOND || second < table.lastSecond()) {
            return NONE;
        }
        int inGroup = table.count() - known;
        if (inGroup >= MOST_GROUP_ROWS || table.count() >= MOST_ROWS) {
            return FULL;
        }
        table.begin(second);
        for (int i = 0; i < fedCount && i < fed.length; i++) {
            table.push(fed[i]);
        }
        fedCount = 0;
        return inGroup;
    }

    public boolean endGroup() {
        if (shut || table.count() == known) {
            return false;
        }
        int bytes = table.bytesInFile(known, table.count()) + GROUP_FRAME;
        if (!file0.hasRoomFor(bytes) || !file1.hasRoomFor(bytes)) {
            return false;
        }
        GroupForm.write(file0, table, known);
        GroupForm.write(file1, table, known);
        table.endGroupHere();
        known = table.count();
        return true;
    }

    public boolean crash(int file, int kept) {
        if (!isFile(file) || kept < 0 || kept > fileOf(file).size()) {
            return false;
        }
        fileOf(file).cutTo(kept);
        forgetAllButMoved();
        shut = true;
        return true;
    }

    public int reopen() {
        forgetAllButMoved();
        shut = false;
        repairedGroups = 0;
        int place = takeGoodGroups();
        badPlace = place < file0.size() || place < file1.size() ? place : NONE;
        file0.cutTo(place);
        file1.cutTo(place);
        known = table.count();
        return known;
    }

    public int byteAt(int row, int i) throws ArrayIndexOutOfBoundsException {
        if (row < 0 || row >= known) {
            throw new ArrayIndexOutOfBoundsException("no such row is known");
        }
        return table.contentAt(row, i);
    }

    public boolean poke(int file, int place, int mask) {
        if (!isFile(file) || place < 0 || place >= fileOf(file).size() || mask < 1 || mask > 255) {
            return false;
        }
        fileOf(file).alter(place, mask);
        return true;
    }

    public int repaired() {
        return repairedGroups;
    }

    public int badAt() {
        return badPlace;
    }

    public boolean move(int month) {
        if (shut || table.count() != known || !same()) {
            return false;
        }
        int end = endOfGroupsUpTo(month);
        if (end == moved) {
            return false;
        }
        // The known rows tell the size, not the files: both may have been altered alike.
        int bytes = table.bytesInFile(moved, end);
        file0.dropFirst(bytes);
        file1.dropFirst(bytes);
        moved = end;
        return true;
    }

    public int rows(int month) {
        int found = 0;
        for (int r = 0; r < known; r++) {
            if (table.monthOf(r) == month) {
                found++;
            }
        }
        return found;
    }

    public boolean same() {
        return file0.size() == file1.size() && file0.agrees(file1, 0, file0.size());
    }

    private static boolean isFile(int file) {
        return file == 0 || file == 1;
    }

    private LogFile fileOf(int file) {
        return file == 0 ? file0 : file1;
    }

    private void forgetAllButMoved() {
        table.cutTo(moved);
        known = moved;
        fedCount = 0;
    }

    /** Takes group after group from the beginning of the files; the place behind the last one. */
    private int takeGoodGroups() {
        int place = 0;
        // A group has a row at least, so there are no more groups than rows.
        for (int groups = 0; groups < MOST_ROWS; groups++) {
            int end = takeGroup(file0, file1, place);
            if (end == NONE) {
                end = takeGroup(file1, file0, place);
            }
            if (end == NONE) {
                return place;
            }
            place = end;
        }
        return place;
    }

    /** The place behind the group taken, or NONE when none is good in this file. */
    private int takeGroup(LogFile file, LogFile other, int place) {
        int end = GroupForm.endOfGood(file, place, table);
        if (end == NONE) {
            return NONE;
        }
        GroupForm.read(file, place, end, table);
        if (!file.agrees(other, place, end)) {
            other.copyFrom(file, place, end);
            repairedGroups++;
        }
        return end;
    }

    /** The number behind the last row of the groups in the files that are of months up to this one. */
    private int endOfGroupsUpTo(int month) {
        int end = moved;
        for (int r = moved; r < known && table.monthOf(r) <= month; r++) {
            if (table.endsGroup(r)) {
                end = r + 1;
            }
        }
        return end;
    }

    /** How a group stands in a file. */
    private static final class GroupForm {
        /** Writes the rows of the table from this one on as a group. */
        static void write(LogFile file, RowTable table, int from) {
            int sum = 0;
            for (int r = from; r < table.count(); r++) {
                sum = writeRow(file, table, r);
            }
            int end = file.size();
            file.add(0);
            file.add(table.count() - from);
            file.addNumber(file.sumOf(end, end + 2, sum), SUM_BYTES);
        }

        /** The row's sum: the group's goes on from it. */
        private static int writeRow(LogFile file, RowTable table, int r) {
            int begin = file.size();
            int length = table.lengthOf(r);
            file.add(length);
            file.addNumber(table.secondOf(r), SECOND_BYTES);
            for (int i = 0; i < length; i++) {
                file.add(table.contentAt(r, i));
            }
            file.addNumber(r, NUMBER_BYTES);
            int sum = file.sumOf(begin, file.size(), 0);
            file.addNumber(sum, SUM_BYTES);
            return sum;
        }

        /** The place behind the group that is good at this place, its rows following the table's; or NONE. */
        static int endOfGood(LogFile file, int place, RowTable table) {
            int at = place;
            int count = 0;
            int second = table.lastSecond();
            while (count < MOST_GROUP_ROWS && file.get(at) > 0) {
                if (!isRowGood(file, at, table.count() + count, second)) {
                    return NONE;
                }
                second = file.number(at + 1, SECOND_BYTES);
                at += file.get(at) + ROW_FRAME;
                count++;
            }
            return count > 0 && isEndGood(file, at, count) ? at + GROUP_FRAME : NONE;
        }

        private static boolean isRowGood(LogFile file, int at, int number, int secondBefore) {
            int length = file.get(at);
            int end = at + length + ROW_FRAME;
            if (length < 1 || length > MOST_CONTENTS || end > file.size() || number >= MOST_ROWS) {
                return false;
            }
            // A second whose highest bit is set reads as below 0, so it is below the one before.
            int second = file.number(at + 1, SECOND_BYTES);
            if (second < secondBefore || second > LAST_SECOND) {
                return false;
            }
            int sumAt = end - SUM_BYTES;
            return file.number(sumAt - NUMBER_BYTES, NUMBER_BYTES) == number
                && file.number(sumAt, SUM_BYTES) == file.sumOf(at, sumAt, 0);
        }

        private static boolean isEndGood(LogFile file, int at, int count) {
            if (at + GROUP_FRAME > file.size() || file.get(at) != 0 || file.get(at + 1) != count) {
                return false;
            }
            int lastRowSum = file.number(at - SUM_BYTES, SUM_BYTES);
            return file.number(at + 2, SUM_BYTES) == file.sumOf(at, at + 2, lastRowSum);
        }

        /** Puts the rows of the good group between these places behind those of the table. */
        static void read(LogFile file, int place, int end, RowTable table) {
            int at = place;
            int count = file.get(end - GROUP_FRAME + 1);
            for (int r = 0; r < count; r++) {
                int length = file.get(at);
                int contents = at + 1 + SECOND_BYTES;
                table.begin(file.number(at + 1, SECOND_BYTES));
                for (int i = 0; i < length; i++) {
                    table.push(file.get(contents + i));
                }
                at += length + ROW_FRAME;
            }
            table.endGroupHere();
        }
    }

    /** The bytes of one file; what would go beyond its bounds is left undone. */
    private static final class LogFile {
        private static final int SUM_TURN = 13;
        private static final int SUM_FACTOR = 0x27D4EB2F;

        private final byte[] bytes = new byte[MOST_FILE_BYTES];
        private int size;

        int size() {
            return size;
        }

        boolean hasRoomFor(int count) {
            return count <= bytes.length - size;
        }

        /** A byte as 0 .. 255, or NONE where the file has none. */
        int get(int place) {
            return place >= 0 && place < size && place < bytes.length ? bytes[place] & 255 : NONE;
        }

        void add(int b) {
            if (size >= 0 && size < bytes.length) {
                bytes[size] = (byte) b;
                size++;
            }
        }

        void addNumber(int value, int width) {
            for (int i = width - 1; i >= 0; i--) {
                add(value >>> (8 * i));
            }
        }

        int number(int place, int width) {
            int value = 0;
            for (int i = 0; i < width; i++) {
                value = value << 8 | get(place + i) & 255;
            }
            return value;
        }

        int sumOf(int from, int to, int begin) {
            int sum = begin;
            for (int i = from; i < to; i++) {
                sum = Integer.rotateLeft(sum ^ (get(i) & 255), SUM_TURN) * SUM_FACTOR;
            }
            return sum;
        }

        void alter(int place, int mask) {
            if (place >= 0 && place < size && place < bytes.length) {
                bytes[place] = (byte) (bytes[place] ^ mask);
            }
        }

        void cutTo(int kept) {
            if (kept >= 0 && kept < size) {
                size = kept;
            }
        }

        void dropFirst(int count) {
            if (count >= 0 && count <= size && size <= bytes.length) {
                System.arraycopy(bytes, count, bytes, 0, size - count);
                size -= count;
            }
        }

        /** Whether the other file has the bytes that this one has between these places. */
        boolean agrees(LogFile other, int from, int to) {
            for (int i = from; i < to; i++) {
                if (get(i) != other.get(i)) {
                    return false;
                }
            }
            return true;
        }

        void copyFrom(LogFile other, int from, int to) {
            for (int i = from; i < to; i++) {
                if (i == size) {
                    add(other.get(i));
                } else if (i >= 0 && i < size && i < bytes.length) {
                    bytes[i] = (byte) other.get(i);
                }
            }
        }
    }

    /** Rows by their numbers; each has its own place for contents, so that none is made later. */
    private static final class RowTable {
        private final int[] seconds = new int[MOST_ROWS];
        private final int[] lengths = new int[MOST_ROWS];
        private final boolean[] groupEnds = new boolean[MOST_ROWS];
        private final byte[] contents = new byte[MOST_ROWS * MOST_CONTENTS];
        private int count;

        int count() {
            return count;
        }

        void cutTo(int kept) {
            if (kept >= 0 && kept < count) {
                count = kept;
            }
        }

        void begin(int second) {
            if (count >= 0 && count < MOST_ROWS) {
                seconds[count] = second;
                lengths[count] = 0;
                groupEnds[count] = false;
                count++;
            }
        }

        /** Puts a byte to the contents of the last row. */
        void push(int b) {
            int r = count - 1;
            if (!has(r)) {
                return;
            }
            int length = lengths[r];
            if (length >= 0 && length < MOST_CONTENTS) {
                contents[r * MOST_CONTENTS + length] = (byte) b;
                lengths[r] = length + 1;
            }
        }

        /** The last row is the last of its group. */
        void endGroupHere() {
            if (has(count - 1)) {
                groupEnds[count - 1] = true;
            }
        }

        private boolean has(int r) {
            return r >= 0 && r < count && r < MOST_ROWS;
        }

        boolean endsGroup(int r) {
            return has(r) && groupEnds[r];
        }

        int secondOf(int r) {
            return has(r) ? seconds[r] : 0;
        }

        /** 0 when there is no row: then no second of the range is too low. */
        int lastSecond() {
            return secondOf(count - 1);
        }

        int monthOf(int r) {
            return secondOf(r) / SECONDS_OF_MONTH;
        }

        int lengthOf(int r) {
            return has(r) ? lengths[r] : 0;
        }

        /** A byte as 0 .. 255, or NONE where the row has none. */
        int contentAt(int r, int i) {
            if (i < 0 || i >= lengthOf(r) || i >= MOST_CONTENTS) {
                return NONE;
            }
            return contents[r * MOST_CONTENTS + i] & 255;
        }

        /** What these rows take in a file, with the ends of the groups that have ended. */
        int bytesInFile(int from, int to) {
            int bytes = 0;
            for (int r = from; r < to; r++) {
                bytes += lengthOf(r) + ROW_FRAME + (endsGroup(r) ? GROUP_FRAME : 0);
            }
            return bytes;
        }
    }
}
