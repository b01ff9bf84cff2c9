/** Promises 16 to 18: undo, save, restore. */
final class HistoryTest {
    private static final Check CHECK = new Check("HistoryTest");

    private static void due(String call, int want, int got) {
        CHECK.due(call, want, got);
    }

    public static void main(String[] args) {
        undo();
        undoOfEachAction();
        undoOfEachMethod();
        fiveStates();
        recordsWithoutAChange();
        whatIsNoAction();
        save();
        restore();
        snapshotOutlivesUndo();
        CHECK.end();
    }

    private static void undo() {
        LendingDisk x = new LendingDisk();
        due("undo without states", LendingDisk.NONE, x.undo());
        x.create();
        x.open(0);
        x.append(0, 3, 5);
        due("undo append", 2, x.undo());
        due("size", 0, x.file(0, 0));
        due("stamp", 0, x.block(0, 3));
        due("total", 0, x.total(0));
        due("lend", 1, x.file(0, 5));
        due("undo open", 1, x.undo());
        due("closed", 0, x.file(0, 3));
        due("undo create", 0, x.undo());
        due("no file", 0, x.count(0));
        due("undo is at its end", LendingDisk.NONE, x.undo());
    }

    /** Undoing the last of the actions gives back all that can be asked for. */
    private static void undoOfEachAction() {
        String[] scripts = {"n", "o1", "x0", "d1", "s0", "a0:20=9", "t0:2", "!", "m"};
        String start = Run.typing("n;n;n;o0;o2;a0:4=1;s0;a0:3=2;a2:5=3") + "; perform; clearText";
        for (String script : scripts) {
            new Run(CHECK, "undo of the order " + script).made(start).typed(script).due("perform", 1).due("undo", 1)
                .made("clearText").isAsAfter(start).due("undo", 0).due("count 0", 0);
        }
        start = Run.typing("n;n;o0;o1;a0:30=1;a1:20=2;a1:2=3") + "; perform; clearText";
        new Run(CHECK, "undo of an append with the step 2").made(start).due("append 0 11 7", 2).due("total 2", 1)
            .due("undo", 1).isAsAfter(start);
    }

    private static void undoOfEachMethod() {
        String[] methods = {"create", "open 1", "close 0", "remove 1", "sync 0", "append 0 20 9", "cut 0 2", "crash", "mend",
            "set 0 1", "set 1 1", "restore"};
        String start = Run.typing("n;n;n;o0;o2;a0:4=1;s0;a0:3=2;a2:5=3") + "; perform; append 2 1 4; save; append 2 3 5";
        for (String method : methods) {
            new Run(CHECK, "undo of " + method).made(start).due("count 9", 3).made(method).due("count 9", 4).due("undo", 3)
                .isAsAfter(start);
        }
    }

    private static void fiveStates() {
        LendingDisk x = new LendingDisk();
        for (int i = 1; i <= 8; i++) {
            x.create();
            due("states", Math.min(i, 5), x.count(9));
        }
        for (int left = 4; left >= 0; left--) {
            due("undo", left, x.undo());
            due("files", 3 + left, x.count(0));
        }
        due("undo at the end", LendingDisk.NONE, x.undo());
        due("the oldest ones are dropped", 3, x.count(0));
        for (int i = 0; i < 4; i++) {
            x.create();
        }
        x.undo();
        x.undo();
        due("create in between", 5, x.create());
        due("states then", 3, x.count(9));
        due("undo then", 2, x.undo());
        due("files then", 5, x.count(0));
    }

    private static void recordsWithoutAChange() {
        LendingDisk x = new LendingDisk();
        x.create();
        x.open(0);
        x.sync(0);
        due("sync without a change", 3, x.count(9));
        x.cut(0, 0);
        due("cut without a change", 4, x.count(9));
        x.undo();
        x.undo();
        x.mend();
        due("mend without a change", 3, x.count(9));
        x.set(LendingDisk.MOST, 8);
        due("set without a change", 4, x.count(9));
        x.save();
        x.restore();
        due("restore without a change", 5, x.count(9));
        LendingDisk y = new LendingDisk();
        y.type('d');
        y.type('0');
        due("perform without an order", 0, y.perform());
        due("is recorded", 1, y.count(9));
    }

    private static void whatIsNoAction() {
        LendingDisk x = Check.after("n;o0;a0:4=1");
        x.save();
        x.type('n');
        x.fault();
        x.clearText();
        x.block(0, 0);
        x.file(0, 0);
        x.extent(0, 0, 0);
        x.run(0, 0);
        x.read(0, 0, 1, 0);
        x.ifAppended(0, 5, 0);
        x.room(0);
        x.wholeness();
        due("states", 1, x.count(9));
        x.open(0);
        x.close(1);
        x.remove(0);
        x.sync(2);
        x.append(0, 65, 0);
        x.cut(0, 5);
        x.set(5, 5);
        x.perform();
        due("states after errors", 1, x.count(9));
    }

    private static void save() {
        LendingDisk x = new LendingDisk();
        due("save", 64, x.save());
        x.create();
        x.open(0);
        x.append(0, 3, 1);
        due("save again", 60, x.save());
        due("states", 3, x.count(9));
        x.append(0, 10, 1);
        due("restore the newer one", 60, x.restore());
        due("size", 3, x.file(0, 0));
        x.close(0);
        due("save without a change of the older", 61, x.save());
        due("restore it", 61, x.restore());
    }

    private static void restore() {
        LendingDisk x = new LendingDisk();
        due("restore without a snapshot", LendingDisk.NOT_POSSIBLE, x.restore());
        due("no state", 0, x.count(9));
        x.set(LendingDisk.MOST, 3);
        x.create();
        x.open(0);
        x.append(0, 5, 50);
        x.save();
        x.crash();
        x.mend();
        x.remove(0);
        x.set(LendingDisk.MOST, 9);
        x.type('n');
        due("restore", 58, x.restore());
        due("text stays", 1, x.count(10));
        due("states", 5, x.count(9));
        due("setting", 3, x.set(LendingDisk.MOST, 3));
        due("undo set", 4, x.undo());
        due("undo restore", 3, x.undo());
        due("the state before", LendingDisk.NO_SUCH, x.file(0, 0));
        due("its setting", 9, x.set(LendingDisk.MOST, 9));
        due("restore again", 58, x.restore());
        due("size", 5, x.file(0, 0));
        x.append(0, 20, 9);
        due("the snapshot is not changed by actions", 58, x.restore());
        due("stamp", 0, x.block(9, 3));
        String saved = "set 0 3; create; open 0; append 0 5 50";
        new Run(CHECK, "restore").made(saved).made("save; crash; mend; remove 0; set 0 9; restore").stateIsAsAfter(saved);
    }

    private static void snapshotOutlivesUndo() {
        LendingDisk x = new LendingDisk();
        x.create();
        x.save();
        x.undo();
        due("no file", 0, x.count(0));
        due("restore", 64, x.restore());
        due("the file of the snapshot", 1, x.count(0));
    }
}
