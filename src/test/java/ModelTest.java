import java.util.ArrayList;
import java.util.List;
import java.util.Random;

/** Random runs with fixed seeds, of at most 512 calls each, compared call by call with the model. */
final class ModelTest {
    private static final int RUNS = 4000;
    private static final int CALLS = 512;
    private static final int[] ODD = {Integer.MIN_VALUE, -2, -1, 0, 1, 2, 255, 256, 8191, 8192, 1_000_000_000,
        1_000_000_001, Integer.MAX_VALUE};

    private final Check check;
    private final Random random;
    private final String run;
    private final MirrorLog log = new MirrorLog();
    private final Model model = new Model();
    private final int secondStep;
    private final boolean alters;
    private int calls;
    private int second;

    private ModelTest(Check check, int seed) {
        this.check = check;
        random = new Random(seed);
        run = "run " + seed + " ";
        secondStep = new int[] {1, 1000, 900_000, 3_000_000, 100_000_000}[random.nextInt(5)];
        alters = random.nextInt(3) != 0;
    }

    public static void main(String[] args) {
        Check check = new Check();
        for (int seed = 0; seed < RUNS; seed++) {
            new ModelTest(check, seed).play();
        }
        check.finish("ModelTest");
    }

    private void play() {
        while (calls < CALLS) {
            step();
        }
    }

    private int pick(int bound) {
        return random.nextInt(Math.max(1, bound));
    }

    private int odd() {
        return ODD[pick(ODD.length)];
    }

    private int argument(int usual) {
        return pick(25) == 0 ? odd() : usual;
    }

    /** Whether one more call may be made, which is counted. */
    private boolean may() {
        return calls++ < CALLS;
    }

    private void step() {
        switch (pick(24)) {
            case 0, 1, 2, 3, 4, 5 -> fedRow();
            case 6, 7 -> feed(argument(pick(256)));
            case 8 -> row(argument(second));
            case 9, 10, 11 -> endGroup();
            case 12 -> crash();
            case 13 -> reopen();
            case 14, 15 -> pokeSomewhere();
            case 16 -> pokeBoth();
            case 17 -> forge();
            case 18 -> move(argument(second / 2_592_000 - pick(4)));
            case 19 -> rows(argument(pick(second / 2_592_000 + 2)));
            case 20 -> same();
            default -> byteAt(argument(pick(model.known().size() + 2)), argument(pick(4)));
        }
    }

    private void feed(int b) {
        if (may()) {
            check.due(run + "feed(" + b + ")", log.feed(b), model.feed(b));
        }
    }

    private void row(int at) {
        if (may()) {
            check.due(run + "row(" + at + ")", log.row(at), model.row(at));
        }
    }

    private void fedRow() {
        for (int i = pick(20) == 0 ? 66 : 1 + pick(3); i > 0; i--) {
            feed(pick(256));
        }
        int next = second + pick(secondStep + 1);
        if (next <= 1_000_000_000 && pick(12) != 0) {
            second = next;
        }
        row(second - (pick(10) == 0 ? 1 : 0));
    }

    private void endGroup() {
        if (may()) {
            check.due(run + "endGroup()", log.endGroup(), model.endGroup());
        }
    }

    private void crash() {
        int file = argument(pick(2));
        int size = model.files[file & 1].length;
        int kept = argument(pick(3) == 0 ? size : pick(size + 2));
        if (may()) {
            check.due(run + "crash(" + file + ", " + kept + ")", log.crash(file, kept), model.crash(file, kept));
        }
        if (pick(4) != 0) {
            reopen();
        }
    }

    private void reopen() {
        if (may()) {
            check.due(run + "reopen()", log.reopen(), model.reopen());
        }
        if (may()) {
            check.due(run + "repaired()", log.repaired(), model.repaired);
        }
        if (may()) {
            check.due(run + "badAt()", log.badAt(), model.badAt);
        }
        List<Model.Row> known = model.known();
        second = known.isEmpty() ? 0 : known.get(known.size() - 1).second();
    }

    private void poke(int file, int place, int mask) {
        if (may()) {
            check.due(run + "poke(" + file + ", " + place + ", " + mask + ")", log.poke(file, place, mask),
                model.poke(file, place, mask));
        }
    }

    private void pokeSomewhere() {
        if (alters) {
            int file = argument(pick(2));
            poke(file, argument(pick(model.files[file & 1].length + 1)), argument(1 + pick(255)));
        }
    }

    private void pokeBoth() {
        if (alters && pick(3) == 0) {
            int place = pick(model.files[0].length);
            int mask = 1 + pick(255);
            poke(0, place, mask);
            poke(1, place, mask);
        }
    }

    /** Alters a group of a file to another one with right sums, which may be good or not. */
    private void forge() {
        if (!alters || model.groups.isEmpty() || !model.same()) {
            return;
        }
        int chosen = pick(model.groups.size());
        int number = model.movedRows.size();
        int place = 0;
        for (int g = 0; g < chosen; g++) {
            place += Model.encode(model.groups.get(g), 0).length;
            number += model.groups.get(g).size();
        }
        List<Model.Row> rows = new ArrayList<>(model.groups.get(chosen));
        int altered = pick(rows.size());
        Model.Row old = rows.get(altered);
        byte[] contents = old.contents().clone();
        contents[pick(contents.length)] ^= (byte) (1 + pick(255));
        rows.set(altered, new Model.Row(old.second() + pick(3) - 1, contents));
        byte[] bytes = Model.encode(rows, pick(5) == 0 ? number + 1 : number);
        int both = pick(3);
        for (int f = 0; f < 2; f++) {
            if (both == 2 || both == f) {
                pokeTo(f, place, bytes);
            }
        }
    }

    private void pokeTo(int file, int place, byte[] bytes) {
        for (int i = 0; i < bytes.length && place + i < model.files[file].length; i++) {
            int mask = (model.files[file][place + i] ^ bytes[i]) & 255;
            if (mask != 0) {
                poke(file, place + i, mask);
            }
        }
    }

    private void move(int month) {
        if (may()) {
            check.due(run + "move(" + month + ")", log.move(month), model.move(month));
        }
    }

    private void rows(int month) {
        if (may()) {
            check.due(run + "rows(" + month + ")", log.rows(month), model.rows(month));
        }
    }

    private void same() {
        if (may()) {
            check.due(run + "same()", log.same(), model.same());
        }
    }

    private void byteAt(int row, int i) {
        if (!may()) {
            return;
        }
        String call = run + "byteAt(" + row + ", " + i + ")";
        int due = model.byteAt(row, i);
        if (due == -99) {
            check.dueOutside(call, log, row, i);
        } else {
            check.due(call, log.byteAt(row, i), due);
        }
    }
}
