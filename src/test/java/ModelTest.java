/**
 * All promises at once: runs of at most 512 mixed calls, each answer compared with the model's, and
 * after some of the calls all that can be asked for.
 */
final class ModelTest {
    private static final int RUNS = 1200;
    private static final int CALLS = 512;
    private static final Check CHECK = new Check("ModelTest");

    private long seed;
    private int calls = 0;
    private LendingDisk disk = new LendingDisk();
    private Model model = new Model();

    private ModelTest(int run) {
        seed = run * 7919L + 17;
    }

    public static void main(String[] args) {
        for (int run = 0; run < RUNS && !CHECK.hasFailed(); run++) {
            new ModelTest(run).compare(run);
        }
        CHECK.end();
    }

    /** A number from 0 to below - 1, the same in each run of the test. */
    private int below(int below) {
        seed = seed * 6364136223846793005L + 1442695040888963407L;
        return (int) ((seed >>> 33) % below);
    }

    private boolean oneIn(int many) {
        return below(many) == 0;
    }

    private void due(String call, double want, double got) {
        calls++;
        CHECK.due("call " + calls + ", " + call, want, got);
    }

    private void compare(int run) {
        int style = run % 4;
        if (style == 1) {
            int most = below(17);
            due("set most " + most, model.set(0, most), disk.set(0, most));
        }
        if (style == 2) {
            due("set policy", model.set(1, 1), disk.set(1, 1));
        }
        while (calls < CALLS && !CHECK.hasFailed()) {
            if (oneIn(12)) {
                otherCall();
            } else if (oneIn(40) && CALLS - calls > 40) {
                script();
            } else {
                action();
            }
            ask();
        }
        if (CHECK.hasFailed()) {
            System.out.println("in run " + run);
        }
    }

    private int someFile() {
        return oneIn(60) ? below(12) - 2 : oneIn(4) ? below(8) : below(4);
    }

    private int someBlocks() {
        return oneIn(40) ? below(70) - 2 : oneIn(6) ? 1 + below(30) : 1 + below(7);
    }

    private void action() {
        int file = someFile();
        char letter = "nnooooxxdssaaaaaaaaaaaat".charAt(below(24));
        if (oneIn(60)) {
            letter = '!';
        }
        if (oneIn(80)) {
            letter = 'm';
        }
        int first = letter == 't' ? below(oneIn(9) ? 67 : 15) - 1 : someBlocks();
        int second = oneIn(50) ? below(104) - 2 : below(100);
        String call = letter + " " + file + ": " + first + " = " + second;
        due(call, model.action(letter, file, first, second), onDisk(letter, file, first, second));
    }

    private int onDisk(char letter, int file, int first, int second) {
        switch (letter) {
            case 'n': return disk.create();
            case 'o': return disk.open(file);
            case 'x': return disk.close(file);
            case 'd': return disk.remove(file);
            case 's': return disk.sync(file);
            case 'a': return disk.append(file, first, second);
            case 't': return disk.cut(file, first);
            case '!': return disk.crash();
            default: return disk.mend();
        }
    }

    private void otherCall() {
        switch (below(6)) {
            case 0:
                int setting = oneIn(9) ? below(5) - 1 : below(2);
                int value = oneIn(9) ? below(20) - 1 : setting == 0 ? below(17) : below(2);
                due("set " + setting + " " + value, model.set(setting, value), disk.set(setting, value));
                break;
            case 1:
            case 2:
                due("undo", model.undo(), disk.undo());
                break;
            case 3:
                due("save", model.save(), disk.save());
                break;
            case 4:
                due("restore", model.restore(), disk.restore());
                break;
            default:
                due("perform", model.perform(), disk.perform());
                break;
        }
    }

    /** A text that is a script, or nearly one. */
    private void script() {
        due("clearText", model.clearText(), disk.clearText());
        StringBuilder text = new StringBuilder();
        int orders = 1 + below(5);
        for (int i = 0; i < orders; i++) {
            char letter = "nooxdsaaaat!m".charAt(below(13));
            text.append(i > 0 ? ";" : "").append(letter);
            if ("oxdsat".indexOf(letter) >= 0) {
                text.append(below(4));
            }
            if (letter == 'a') {
                text.append(':').append(1 + below(oneIn(9) ? 70 : 12)).append('=').append(below(oneIn(9) ? 120 : 99));
            }
            if (letter == 't') {
                text.append(':').append(below(oneIn(9) ? 70 : 12));
            }
        }
        if (oneIn(3)) {
            text.setCharAt(below(text.length()), "nmox!ads;:=0123456789t ~".charAt(below(24)));
        }
        for (int i = 0; i < text.length() && calls < CALLS; i++) {
            due("type " + text.charAt(i), model.type(text.charAt(i)), disk.type(text.charAt(i)));
            if (oneIn(8) && calls < CALLS) {
                due("fault in " + text, model.fault(), disk.fault());
            }
        }
        if (calls < CALLS) {
            due("fault of " + text, model.fault(), disk.fault());
        }
        if (calls < CALLS) {
            due("perform " + text, model.perform(), disk.perform());
        }
    }

    /** A few questions, rarely all of them; these are not counted among the calls. */
    private void ask() {
        int before = calls;
        if (oneIn(60)) {
            askAll();
        }
        int file = someFile();
        int blocks = someBlocks();
        for (int what = -1; what < 4; what++) {
            due("ifAppended " + file + " " + blocks + " " + what,
                model.ifAppended(file, blocks, what), disk.ifAppended(file, blocks, what));
        }
        int from = below(oneIn(3) ? 66 : 12) - 1;
        int many = below(oneIn(3) ? 68 : 12) - 1;
        int what = oneIn(9) ? below(4) - 1 : below(2);
        due("read " + file + " " + from + " " + many + " " + what,
            model.read(file, from, many, what), disk.read(file, from, many, what));
        for (int total = -1; total < 5; total++) {
            due("total " + total, model.total(total), disk.total(total));
        }
        calls = before;
    }

    private void askAll() {
        for (int block = -1; block < 65; block++) {
            for (int what = -1; what < 5; what++) {
                due("block " + block + " " + what, model.block(block, what), disk.block(block, what));
            }
        }
        for (int file = -1; file < 9; file++) {
            for (int what = -1; what < 7; what++) {
                due("file " + file + " " + what, model.file(file, what), disk.file(file, what));
            }
            for (int extent = -1; extent < 9; extent++) {
                for (int what = -1; what < 3; what++) {
                    due("extent " + file + " " + extent + " " + what,
                        model.extent(file, extent, what), disk.extent(file, extent, what));
                }
            }
            due("room " + file, model.room(file), disk.room(file));
        }
        for (int run = -1; run < 14; run++) {
            for (int what = -1; what < 3; what++) {
                due("run " + run + " " + what, model.run(run, what), disk.run(run, what));
            }
        }
        for (int what = -1; what < 12; what++) {
            due("count " + what, model.count(what), disk.count(what));
        }
        due("wholeness", model.wholeness(), disk.wholeness());
    }
}
