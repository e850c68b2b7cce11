import java.io.ByteArrayOutputStream;
import java.nio.ByteBuffer;
import java.util.ArrayList;
import java.util.List;

/** The bytes of a file, written from the document's terms and apart from the class under test. */
final class Image {
    private final ByteArrayOutputStream out = new ByteArrayOutputStream();
    private final List<byte[]> rowsOfGroup = new ArrayList<>();

    static int sum(int begin, byte[] bytes) {
        int s = begin;
        for (byte b : bytes) {
            s ^= b & 0xff;
            s = s << 13 | s >>> 19;
            s *= 0x27D4EB2F;
        }
        return s;
    }

    static byte[] contents(int... values) {
        byte[] bytes = new byte[values.length];
        for (int i = 0; i < values.length; i++) {
            bytes[i] = (byte) values[i];
        }
        return bytes;
    }

    static byte[] rowBytes(int number, int second, byte[] contents) {
        ByteBuffer buffer = ByteBuffer.allocate(contents.length + 11);
        buffer.put((byte) contents.length).putInt(second).put(contents).putShort((short) number);
        byte[] summed = new byte[contents.length + 7];
        buffer.get(0, summed);
        return buffer.putInt(sum(0, summed)).array();
    }

    Image row(int number, int second, int... values) {
        rowsOfGroup.add(rowBytes(number, second, contents(values)));
        return this;
    }

    Image end() {
        return end(0, rowsOfGroup.size(), 0);
    }

    /** Ends the group with two bytes that may be wrong ones, under a sum that is right for them. */
    Image end(int mark, int count) {
        return end(mark, count, 0);
    }

    /** The same, with the sum that the end's goes on from where the group has no rows. */
    Image end(int mark, int count, int sumWithoutRows) {
        int last = sumWithoutRows;
        for (byte[] row : rowsOfGroup) {
            out.writeBytes(row);
            last = ByteBuffer.wrap(row).getInt(row.length - 4);
        }
        rowsOfGroup.clear();
        byte[] tail = {(byte) mark, (byte) count};
        out.writeBytes(tail);
        out.writeBytes(ByteBuffer.allocate(4).putInt(sum(last, tail)).array());
        return this;
    }

    byte[] bytes() {
        return out.toByteArray();
    }
}
