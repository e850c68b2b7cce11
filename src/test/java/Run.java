import java.util.Arrays;

/** A run of calls on one new log, each with the answer that is due. */
final class Run {
    private static final int MOST_CALLS = 512;

    private final Check check;
    private final String what;
    private final int mostCalls;
    private final MirrorLog log = new MirrorLog();
    private int calls;

    private Run(Check check, String what, int mostCalls) {
        this.check = check;
        this.what = what;
        this.mostCalls = mostCalls;
    }

    /** A run that is wrong by itself when it has more calls than the document speaks of. */
    static Run within512(Check check, String what) {
        return new Run(check, what, MOST_CALLS);
    }

    /** A run for limits that 512 calls do not reach. */
    static Run beyond512(Check check, String what) {
        return new Run(check, what, Integer.MAX_VALUE);
    }

    int calls() {
        return calls;
    }

    private String call(String name, int... arguments) {
        calls++;
        if (calls > mostCalls) {
            check.due(what + ": calls of the run", calls, mostCalls);
        }
        return what + ": " + name + Arrays.toString(arguments);
    }

    Run feed(int b, boolean due) {
        check.due(call("feed", b), log.feed(b), due);
        return this;
    }

    Run row(int second, int due) {
        check.due(call("row", second), log.row(second), due);
        return this;
    }

    Run endGroup(boolean due) {
        check.due(call("endGroup"), log.endGroup(), due);
        return this;
    }

    Run crash(int file, int kept, boolean due) {
        check.due(call("crash", file, kept), log.crash(file, kept), due);
        return this;
    }

    Run reopen(int due) {
        check.due(call("reopen"), log.reopen(), due);
        return this;
    }

    Run byteAt(int row, int i, int due) {
        check.due(call("byteAt", row, i), log.byteAt(row, i), due);
        return this;
    }

    /** byteAt throws for a row that is none. */
    Run noRow(int row, int i) {
        check.dueOutside(call("byteAt", row, i), log, row, i);
        return this;
    }

    Run poke(int file, int place, int mask, boolean due) {
        check.due(call("poke", file, place, mask), log.poke(file, place, mask), due);
        return this;
    }

    Run repaired(int due) {
        check.due(call("repaired"), log.repaired(), due);
        return this;
    }

    Run badAt(int due) {
        check.due(call("badAt"), log.badAt(), due);
        return this;
    }

    Run move(int month, boolean due) {
        check.due(call("move", month), log.move(month), due);
        return this;
    }

    Run rows(int month, int due) {
        check.due(call("rows", month), log.rows(month), due);
        return this;
    }

    Run same(boolean due) {
        check.due(call("same"), log.same(), due);
        return this;
    }

    /** Feeds contents that become a row, whose number in its group is due. */
    Run put(int second, int due, int... contents) {
        for (int b : contents) {
            feed(b, true);
        }
        return row(second, due);
    }

    /** Puts a group of one row. */
    Run group(int second, int... contents) {
        return put(second, 0, contents).endGroup(true);
    }

    /** Puts groups of one row with one byte, 100 on: 18 bytes each in a file. */
    Run groups(int... seconds) {
        for (int i = 0; i < seconds.length; i++) {
            group(seconds[i], 100 + i);
        }
        return this;
    }

    /** Puts a group of so many rows with one byte each, 0 on: 12 bytes each in a file, and 6 for the group. */
    Run groupOf(int rows, int second) {
        for (int r = 0; r < rows; r++) {
            put(second, r, r);
        }
        return endGroup(true);
    }

    Run pokeBoth(int place, int mask) {
        return poke(0, place, mask, true).poke(1, place, mask, true);
    }

    /** The size of a file, told by pokes that alter nothing in the end. */
    Run size(int file, int due) {
        if (due > 0) {
            poke(file, due - 1, 1, true).poke(file, due - 1, 1, true);
        }
        return poke(file, due, 1, false);
    }

    Run sizes(int due) {
        return size(0, due).size(1, due);
    }

    /** Alters a file that has the old bytes from a place on, so that it has the wanted ones there. */
    Run forge(int file, int place, byte[] old, byte[] wanted) {
        check.due(what + ": bytes to forge", old.length, wanted.length);
        for (int i = 0; i < Math.min(old.length, wanted.length); i++) {
            int mask = (old[i] ^ wanted[i]) & 255;
            if (mask != 0) {
                poke(file, place + i, mask, true);
            }
        }
        return this;
    }

    Run forgeBoth(byte[] old, byte[] wanted) {
        return forge(0, 0, old, wanted).forge(1, 0, old, wanted);
    }
}
