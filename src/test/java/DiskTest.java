/** Promises 9 to 11: crash, mend, set. */
final class DiskTest {
    private static final Check CHECK = new Check("DiskTest");

    private static void due(String call, int want, int got) {
        CHECK.due(call, want, got);
    }

    public static void main(String[] args) {
        crash();
        crashOfAnEmptyDisk();
        afterACrash();
        appendAfterACrash();
        closeAfterACrash();
        mend();
        set();
        setErrors();
        CHECK.end();
    }

    private static void crash() {
        LendingDisk x = Check.after("n;n;n;o0;o1;a0:4=1;s0;a0:3=2;a1:5=3;x1;o1;a1:2=4");
        // file 0: 4 safe, 7 data, 2 lent; file 1: 5 safe, 7 data, then one lent
        due("lent to 1", 1, x.file(1, 1));
        due("lent to 0", 2, x.file(0, 1));
        due("crash", 5, x.crash());
        due("lost", 5, x.total(3));
        due("size of 0", 4, x.file(0, 0));
        due("lent to 0 then", 5, x.file(0, 1));
        due("safe size of 0", 4, x.file(0, 2));
        due("0 is closed", 0, x.file(0, 3));
        due("lend of 0", 1, x.file(0, 5));
        due("size of 1", 5, x.file(1, 0));
        due("lent to 1 then", 3, x.file(1, 1));
        due("1 is closed", 0, x.file(1, 3));
        due("lend of 1", 1, x.file(1, 5));
        due("the empty one", 0, x.file(2, 1));
        due("the empty one is closed", 0, x.file(2, 3));
        due("none becomes free", 64 - 17, x.count(2));
        due("stamp stays", 2, x.block(6, 3));
        due("lent now", 2, x.block(6, 1));
        due("none is given back but by close", 1, x.total(1));
        due("a second crash", 0, x.crash());
        due("lost all in all", 5, x.total(3));
        due("states", 3, x.count(9));
        due("open again", 1, x.open(0));
        due("append", 1, x.append(0, 1, 9));
        due("a third crash", 1, x.crash());
        due("lost in all", 6, x.total(3));
    }

    private static void crashOfAnEmptyDisk() {
        LendingDisk x = new LendingDisk();
        due("crash", 0, x.crash());
        due("mend", 0, x.mend());
        due("both are recorded", 2, x.count(9));
        x.create();
        x.open(0);
        due("crash without blocks", 0, x.crash());
        due("closes", LendingDisk.NOT_POSSIBLE, x.close(0));
        due("no such file is made", 1, x.count(0));
        due("nor below", LendingDisk.NO_SUCH, x.file(1, 0));
    }

    private static void afterACrash() {
        LendingDisk x = Check.after("n;o0;a0:4=7;s0;a0:2=8;!");
        due("read", 4, x.read(0, 0, 64, 1));
        due("sum", 28, x.read(0, 0, 64, 0));
        due("read behind", LendingDisk.NONE, x.read(0, 4, 1, 0));
        due("open leaves them lent", 1, x.open(0));
        due("lent", 4, x.file(0, 1));
        due("sync", 0, x.sync(0));
        due("cut", 4, x.cut(0, 4));
        due("given back", 4, x.total(1));
    }

    private static void appendAfterACrash() {
        LendingDisk x = Check.after("n;o0;a0:4=7;s0;a0:2=8;!;o0");
        // 4 with data and 4 lent
        due("append 3 within the lent ones", 1, x.append(0, 3, 1));
        due("one is left", 1, x.file(0, 1));
        due("lend is 1", 1, x.file(0, 5));
        due("append 2", 1, x.append(0, 2, 1));
        due("lent with lend 1", 1, x.file(0, 1));
        due("lend is 2", 2, x.file(0, 5));
    }

    private static void closeAfterACrash() {
        LendingDisk x = Check.after("n;o0;a0:4=7;!;o0");
        due("close gives back what lost its data", 5, x.close(0));
        due("size", 0, x.file(0, 0));
        due("free", 64, x.count(2));
        due("given back", 5, x.total(1));
    }

    private static void mend() {
        LendingDisk x = Check.after("n;n;n;o0;o1;a0:4=1;s0;a0:3=2;a1:5=3;!;o1");
        // file 0: 4 and 5 lent; file 1: 6 lent, open
        due("lent to closed files", 5, x.count(5));
        due("mend", 5, x.mend());
        due("lent to 0", 0, x.file(0, 1));
        due("size of 0", 4, x.file(0, 0));
        due("safe size of 0", 4, x.file(0, 2));
        due("open files keep theirs", 6, x.file(1, 1));
        due("given back", 5, x.total(1));
        due("not in step 2", 0, x.total(2));
        due("free", 64 - 10, x.count(2));
        due("mend again", 0, x.mend());
        due("states", 3, x.count(9));
        x.crash();
        due("mend the other", 6, x.mend());
        due("given back in all", 11, x.total(1));
        LendingDisk y = Check.after("n;n;n;o0;o1;o2;a0:1=1;a1:2=1;a2:3=1;!");
        due("mend several", 9, y.mend());
        due("all are free", 64, y.count(2));
    }

    private static void set() {
        LendingDisk x = new LendingDisk();
        due("set most", 8, x.set(LendingDisk.MOST, 16));
        due("set most again", 16, x.set(LendingDisk.MOST, 0));
        due("most 0", 0, x.set(LendingDisk.MOST, 0));
        due("set policy", 0, x.set(LendingDisk.POLICY, 1));
        due("set policy again", 1, x.set(LendingDisk.POLICY, 1));
        due("each is recorded", 5, x.count(9));
        due("undo", 4, x.undo());
        due("undo", 3, x.undo());
        due("policy is undone", 0, x.set(LendingDisk.POLICY, 0));
        due("most is not", 0, x.set(LendingDisk.MOST, 5));
        due("to the same value", 5, x.set(LendingDisk.MOST, 5));
    }

    private static void setErrors() {
        LendingDisk x = new LendingDisk();
        due("no such setting ahead of a bad value", LendingDisk.NO_SUCH, x.set(2, 99));
        due("setting -1", LendingDisk.NO_SUCH, x.set(-1, 0));
        due("extreme setting", LendingDisk.NO_SUCH, x.set(Integer.MAX_VALUE, 0));
        due("most 17", LendingDisk.BAD_VALUE, x.set(LendingDisk.MOST, 17));
        due("most -1", LendingDisk.BAD_VALUE, x.set(LendingDisk.MOST, -1));
        due("policy 2", LendingDisk.BAD_VALUE, x.set(LendingDisk.POLICY, 2));
        due("policy -1", LendingDisk.BAD_VALUE, x.set(LendingDisk.POLICY, -1));
        due("no states", 0, x.count(9));
        due("most stays", 8, x.set(LendingDisk.MOST, 8));
        due("policy stays", 0, x.set(LendingDisk.POLICY, 0));
    }
}
