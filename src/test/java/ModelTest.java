/**
 * All promises at once: runs of 512 mixed calls, each answer compared with the model's. The runs differ
 * in how many files they use and how much they append; some keep their last calls to ask for all there is.
 */
final class ModelTest {
    private static final int RUNS = 8000;
    private static final int CALLS = 512;
    private static final Check CHECK = new Check("ModelTest");

    private final LendingDisk disk = new LendingDisk();
    private final Model model = new Model();
    private final int files;
    private final int mostAppended;
    private long seed;
    private int calls = 0;

    private ModelTest(int run) {
        seed = run * 7919L + 17;
        files = 1 + below(8);
        mostAppended = oneIn(3) ? 2 : oneIn(2) ? 7 : 20;
    }

    public static void main(String[] args) {
        for (int run = 0; run < RUNS && !CHECK.hasFailed(); run++) {
            new ModelTest(run).compare(run);
        }
        CHECK.end();
    }

    /** A number from 0 to below - 1, the same in each run of the test. */
    private int below(int below) {
        seed = seed * 6364136223846793005L + 1442695040888963407L;
        return (int) ((seed >>> 33) % below);
    }

    private boolean oneIn(int many) {
        return below(many) == 0;
    }

    /** A number from the least to the greatest, rarely one beside them or an extreme. */
    private int from(int least, int greatest) {
        if (oneIn(40)) {
            int[] beside = {least - 1, greatest + 1, Integer.MIN_VALUE, Integer.MAX_VALUE};
            return beside[below(4)];
        }
        return oneIn(10) ? oneIn(2) ? least : greatest : least + below(greatest - least + 1);
    }

    private boolean goesOn() {
        return calls < CALLS && !CHECK.hasFailed();
    }

    private void due(String call, double want, double got) {
        calls++;
        CHECK.due("call " + calls + ", " + call, want, got);
    }

    private void compare(int run) {
        int kept = oneIn(2) ? 0 : 260;
        if (oneIn(2)) {
            int most = oneIn(2) ? 0 : below(17);
            due("set most " + most, model.set(0, most), disk.set(0, most));
        }
        if (oneIn(2)) {
            due("set policy", model.set(1, 1), disk.set(1, 1));
        }
        while (goesOn() && calls < CALLS - kept) {
            step();
        }
        if (oneIn(2)) {
            askBlocks();
        } else {
            askOthers();
        }
        if (CHECK.hasFailed()) {
            System.out.println("in run " + run);
        }
    }

    private void step() {
        if (oneIn(4)) {
            query();
        } else if (oneIn(15)) {
            otherCall();
        } else if (oneIn(60)) {
            script();
        } else {
            action();
        }
    }

    private int someFile() {
        return oneIn(25) ? from(0, 7) : below(files);
    }

    /** Often few blocks, at times all that there is room for, or one more. */
    private int someBlocks(int file) {
        if (oneIn(25)) {
            return model.room(file) + below(3) - 1;
        }
        return oneIn(12) ? from(1, 64) : 1 + below(mostAppended);
    }

    private void action() {
        int file = someFile();
        char letter = "nnooooxxdssaaaaaaaaaaaatt!m".charAt(below(oneIn(6) ? 27 : 25));
        int first = letter == 't' ? someSize(file) : someBlocks(file);
        int second = from(0, 99);
        String call = letter + " " + file + ": " + first + " = " + second;
        due(call, model.action(letter, file, first, second), onDisk(letter, file, first, second));
    }

    private int someSize(int file) {
        int size = model.file(file, 0);
        return oneIn(4) || size < 0 ? from(0, 64) : size - below(Math.min(size + 2, 5)) + (oneIn(9) ? 1 : 0);
    }

    private int onDisk(char letter, int file, int first, int second) {
        switch (letter) {
            case 'n': return disk.create();
            case 'o': return disk.open(file);
            case 'x': return disk.close(file);
            case 'd': return disk.remove(file);
            case 's': return disk.sync(file);
            case 'a': return disk.append(file, first, second);
            case 't': return disk.cut(file, first);
            case '!': return disk.crash();
            default: return disk.mend();
        }
    }

    private void otherCall() {
        switch (below(6)) {
            case 0:
                int setting = oneIn(9) ? from(0, 1) : below(2);
                int value = from(0, setting == 0 ? 16 : 1);
                due("set " + setting + " " + value, model.set(setting, value), disk.set(setting, value));
                break;
            case 1:
            case 2:
                due("undo", model.undo(), disk.undo());
                break;
            case 3:
                due("save", model.save(), disk.save());
                break;
            case 4:
                due("restore", model.restore(), disk.restore());
                break;
            default:
                due("perform", model.perform(), disk.perform());
                break;
        }
    }

    /** A text that is a script, or nearly one; it can be longer than a text may be. */
    private void script() {
        due("clearText", model.clearText(), disk.clearText());
        StringBuilder text = new StringBuilder();
        int orders = 1 + below(oneIn(3) ? 22 : 5);
        for (int i = 0; i < orders; i++) {
            char letter = "nooxdsaaaat!m".charAt(below(13));
            text.append(i > 0 ? ";" : "").append(letter);
            if ("oxdsat".indexOf(letter) >= 0) {
                text.append(below(files));
            }
            if (letter == 'a') {
                text.append(':').append(1 + below(oneIn(30) ? 70 : 12)).append('=').append(below(oneIn(30) ? 120 : 99));
            }
            if (letter == 't') {
                text.append(':').append(below(oneIn(30) ? 70 : 12));
            }
        }
        if (oneIn(3)) {
            text.setCharAt(below(text.length()), "nmox!ads;:=0123456789t ~".charAt(below(24)));
        }
        for (int i = 0; i < text.length() && goesOn(); i++) {
            int character = oneIn(80) ? from(32, 126) : text.charAt(i);
            due("type " + character, model.type(character), disk.type(character));
            if (oneIn(8) && goesOn()) {
                due("fault in " + text, model.fault(), disk.fault());
            }
        }
        if (goesOn()) {
            due("fault of " + text, model.fault(), disk.fault());
        }
        if (goesOn()) {
            due("perform " + text, model.perform(), disk.perform());
        }
    }

    private void query() {
        int file = someFile();
        switch (below(11)) {
            case 0: askBlock(from(0, 63), from(0, 3)); break;
            case 1: askFile(file, from(0, 5)); break;
            case 2: askExtent(file, from(0, oneIn(3) ? 64 : 4), from(0, 1)); break;
            case 3: askRun(from(0, oneIn(3) ? 32 : 4), from(0, 1)); break;
            case 4: askCount(from(0, 10)); break;
            case 5: askTotal(from(0, 3)); break;
            case 6: due("room " + file, model.room(file), disk.room(file)); break;
            case 7: due("wholeness", model.wholeness(), disk.wholeness()); break;
            case 8: due("fault", model.fault(), disk.fault()); break;
            case 9: askIfAppended(file, someBlocks(file), from(0, 2)); break;
            default: askRead(file, from(0, oneIn(3) ? 63 : 9), from(1, oneIn(3) ? 64 : 9), from(0, 1)); break;
        }
    }

    private void askBlock(int block, int what) {
        due("block " + block + " " + what, model.block(block, what), disk.block(block, what));
    }

    private void askFile(int file, int what) {
        due("file " + file + " " + what, model.file(file, what), disk.file(file, what));
    }

    private void askExtent(int file, int extent, int what) {
        due("extent " + file + " " + extent + " " + what, model.extent(file, extent, what), disk.extent(file, extent, what));
    }

    private void askRun(int run, int what) {
        due("run " + run + " " + what, model.run(run, what), disk.run(run, what));
    }

    private void askCount(int what) {
        due("count " + what, model.count(what), disk.count(what));
    }

    private void askTotal(int what) {
        due("total " + what, model.total(what), disk.total(what));
    }

    private void askIfAppended(int file, int blocks, int what) {
        due("ifAppended " + file + " " + blocks + " " + what,
            model.ifAppended(file, blocks, what), disk.ifAppended(file, blocks, what));
    }

    private void askRead(int file, int from, int many, int what) {
        due("read " + file + " " + from + " " + many + " " + what,
            model.read(file, from, many, what), disk.read(file, from, many, what));
    }

    private void askBlocks() {
        for (int block = 0; block < 64; block++) {
            for (int what = 0; what < 4 && goesOn(); what++) {
                askBlock(block, what);
            }
        }
    }

    private void askOthers() {
        for (int what = 0; what < 11 && goesOn(); what++) {
            askCount(what);
        }
        for (int what = 0; what < 4 && goesOn(); what++) {
            askTotal(what);
        }
        for (int file = 0; file < 8; file++) {
            for (int what = 0; what < 6 && goesOn(); what++) {
                askFile(file, what);
            }
        }
        for (int run = 0; run <= model.count(6); run++) {
            for (int what = 0; what < 2 && goesOn(); what++) {
                askRun(run, what);
            }
        }
        for (int file = 0; file < 8; file++) {
            for (int extent = 0; extent <= model.file(file, 4) && goesOn(); extent++) {
                askExtent(file, extent, below(2));
            }
        }
    }
}
