import java.nio.BufferUnderflowException;
import java.nio.ByteBuffer;
import java.util.ArrayList;
import java.util.Arrays;
import java.util.List;

/**
 * The document in its plainest form, to compare runs with: a group is good when writing its rows
 * anew, with the numbers due, gives the very bytes that stand in the file.
 */
final class Model {
    record Row(int second, byte[] contents) { }

    final List<Row> movedRows = new ArrayList<>();
    final List<List<Row>> groups = new ArrayList<>();
    final List<Row> pending = new ArrayList<>();
    final List<Integer> fed = new ArrayList<>();
    final byte[][] files = {new byte[0], new byte[0]};
    boolean shut;
    int repaired;
    int badAt = -1;

    List<Row> known() {
        List<Row> all = new ArrayList<>(movedRows);
        groups.forEach(all::addAll);
        return all;
    }

    static byte[] encode(List<Row> rows, int firstNumber) {
        ByteBuffer out = ByteBuffer.allocate(16 * 80 + 6);
        int last = 0;
        int number = firstNumber;
        for (Row row : rows) {
            byte[] bytes = Image.rowBytes(number++, row.second, row.contents);
            last = ByteBuffer.wrap(bytes).getInt(bytes.length - 4);
            out.put(bytes);
        }
        byte[] tail = {0, (byte) rows.size()};
        out.put(tail).putInt(Image.sum(last, tail));
        return Arrays.copyOf(out.array(), out.position());
    }

    boolean feed(int b) {
        if (shut || b < 0 || b > 255 || fed.size() == 64) {
            return false;
        }
        return fed.add(b);
    }

    int row(int second) {
        List<Row> all = known();
        all.addAll(pending);
        int last = all.isEmpty() ? 0 : all.get(all.size() - 1).second;
        if (shut || fed.isEmpty() || second < 0 || second > 1_000_000_000 || second < last) {
            return -1;
        }
        if (pending.size() == 16 || all.size() == 600) {
            return -2;
        }
        pending.add(new Row(second, Image.contents(fed.stream().mapToInt(x -> x).toArray())));
        fed.clear();
        return pending.size() - 1;
    }

    boolean endGroup() {
        if (shut || pending.isEmpty()) {
            return false;
        }
        byte[] bytes = encode(pending, known().size());
        if (files[0].length + bytes.length > 8192) {
            return false;
        }
        for (int f = 0; f < 2; f++) {
            byte[] longer = Arrays.copyOf(files[f], files[f].length + bytes.length);
            System.arraycopy(bytes, 0, longer, files[f].length, bytes.length);
            files[f] = longer;
        }
        groups.add(new ArrayList<>(pending));
        pending.clear();
        return true;
    }

    private void forget() {
        groups.clear();
        pending.clear();
        fed.clear();
    }

    boolean crash(int file, int kept) {
        if (file < 0 || file > 1 || kept < 0 || kept > files[file].length) {
            return false;
        }
        files[file] = Arrays.copyOf(files[file], kept);
        forget();
        shut = true;
        return true;
    }

    /** The rows of the group that is good there, or null. */
    private List<Row> goodGroup(byte[] file, int place) {
        if (place > file.length) {
            return null;
        }
        List<Row> before = known();
        List<Row> rows = new ArrayList<>();
        ByteBuffer in = ByteBuffer.wrap(file, place, file.length - place);
        try {
            for (int length = in.get() & 255; length != 0; length = in.get() & 255) {
                int second = in.getInt();
                byte[] contents = new byte[length];
                in.get(contents);
                in.getShort();
                in.getInt();
                rows.add(new Row(second, contents));
            }
        } catch (BufferUnderflowException e) {
            return null;
        }
        int last = before.isEmpty() ? 0 : before.get(before.size() - 1).second;
        for (Row row : rows) {
            if (row.contents.length > 64 || row.second < last || row.second > 1_000_000_000) {
                return null;
            }
            last = row.second;
        }
        if (rows.isEmpty() || rows.size() > 16) {
            return null;
        }
        byte[] due = encode(rows, before.size());
        return holds(file, place, due) ? rows : null;
    }

    private static boolean holds(byte[] file, int place, byte[] bytes) {
        int end = place + bytes.length;
        return end <= file.length && Arrays.equals(file, place, end, bytes, 0, bytes.length);
    }

    int reopen() {
        forget();
        shut = false;
        repaired = 0;
        byte[] kept = new byte[8192];
        int place = 0;
        while (true) {
            List<Row> rows = goodGroup(files[0], place);
            if (rows == null) {
                rows = goodGroup(files[1], place);
            }
            if (rows == null) {
                break;
            }
            byte[] bytes = encode(rows, known().size());
            if (!holds(files[0], place, bytes) || !holds(files[1], place, bytes)) {
                repaired++;
            }
            System.arraycopy(bytes, 0, kept, place, bytes.length);
            place += bytes.length;
            groups.add(rows);
        }
        badAt = Math.max(files[0].length, files[1].length) > place ? place : -1;
        files[0] = Arrays.copyOf(kept, place);
        files[1] = Arrays.copyOf(kept, place);
        return known().size();
    }

    /** A byte, -1 for none, or -99 where the document wants an exception. */
    int byteAt(int row, int i) {
        List<Row> all = known();
        if (row < 0 || row >= all.size()) {
            return -99;
        }
        byte[] contents = all.get(row).contents;
        return i >= 0 && i < contents.length ? contents[i] & 255 : -1;
    }

    boolean poke(int file, int place, int mask) {
        if (file < 0 || file > 1 || place < 0 || place >= files[file].length || mask < 1 || mask > 255) {
            return false;
        }
        files[file][place] ^= (byte) mask;
        return true;
    }

    boolean move(int month) {
        if (shut || !pending.isEmpty() || !same()) {
            return false;
        }
        boolean some = false;
        while (!groups.isEmpty() && groups.get(0).stream().allMatch(r -> r.second / 2_592_000 <= month)) {
            int size = encode(groups.get(0), 0).length;
            for (int f = 0; f < 2; f++) {
                files[f] = Arrays.copyOfRange(files[f], size, files[f].length);
            }
            movedRows.addAll(groups.remove(0));
            some = true;
        }
        return some;
    }

    int rows(int month) {
        return (int) known().stream().filter(r -> r.second / 2_592_000 == month).count();
    }

    boolean same() {
        return Arrays.equals(files[0], files[1]);
    }
}
