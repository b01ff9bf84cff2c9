/** Promises 19 to 25: block, file, extent, run, read, count, total. */
final class QueriesTest {
    private static final Check CHECK = new Check("QueriesTest");

    private static void due(String call, int want, int got) {
        CHECK.due(call, want, got);
    }

    public static void main(String[] args) {
        block();
        file();
        extent();
        extentsThatGoDown();
        run();
        runsOfAFullDisk();
        read();
        count();
        total();
        CHECK.end();
    }

    /**
     * The first script: 0 takes 0 to 3 (3 lent), 1 takes 4 to 6 and gives 6 back, 2 takes 6 to 7 (7
     * lent). The second: 0 needs 2 and gets 2 more, 8 to 11; 6 and 7 become free; 3 takes 6 to 7 and
     * gives 7 back.
     */
    private static LendingDisk sample() {
        return Check.after("n;n;n;n;o0;o1;o2;a0:3=7;a1:2=9;x1;a2:1=1", "a0:3=8;x2;d2;o3;a3:1=5;x3");
    }

    /** What the sample is from block 0 to 13; the blocks behind are as 13. */
    private static final int[] OWNERS = {0, 0, 0, 0, 1, 1, 3, -5, 0, 0, 0, 0, -5, -5};
    private static final int[] USES = {1, 1, 1, 1, 1, 1, 1, 0, 1, 1, 2, 2, 0, 0};
    private static final int[] PLACES = {0, 1, 2, 3, 0, 1, 0, -5, 4, 5, 6, 7, -5, -5};
    private static final int[] STAMPS = {7, 7, 7, 8, 9, 9, 5, 0, 8, 8, 0, 0, 0, 0};

    private static void block() {
        LendingDisk x = sample();
        for (int block = 0; block < 64; block++) {
            int row = Math.min(block, 13);
            due("owner of " + block, OWNERS[row], x.block(block, 0));
            due("use of " + block, USES[row], x.block(block, 1));
            due("place of " + block, PLACES[row], x.block(block, 2));
            due("stamp of " + block, STAMPS[row], x.block(block, 3));
        }
        due("block -1", LendingDisk.NO_SUCH, x.block(-1, 0));
        due("block 64", LendingDisk.NO_SUCH, x.block(64, 0));
        due("no such block ahead of a bad value", LendingDisk.NO_SUCH, x.block(64, 9));
        due("extreme block", LendingDisk.NO_SUCH, x.block(Integer.MIN_VALUE, 0));
        due("what -1", LendingDisk.BAD_VALUE, x.block(0, -1));
        due("what 4", LendingDisk.BAD_VALUE, x.block(63, 4));
        due("what of a free block", LendingDisk.BAD_VALUE, x.block(20, 4));
    }

    private static void file() {
        LendingDisk x = sample();
        int[][] files = {{6, 2, 0, 1, 2, 4}, {2, 0, 2, 0, 1, 1}, {-1, -1, -1, -1, -1, -1}, {1, 0, 1, 0, 1, 1}};
        for (int file = 0; file < files.length; file++) {
            for (int what = 0; what < 6; what++) {
                due("file " + file + ", " + what, files[file][what], x.file(file, what));
            }
        }
        due("no such file ahead of a bad value", LendingDisk.NO_SUCH, x.file(2, 6));
        due("file -1", LendingDisk.NO_SUCH, x.file(-1, 0));
        due("file 8", LendingDisk.NO_SUCH, x.file(8, 0));
        due("extreme file", LendingDisk.NO_SUCH, x.file(Integer.MAX_VALUE, 0));
        due("what -1", LendingDisk.BAD_VALUE, x.file(0, -1));
        due("what 6", LendingDisk.BAD_VALUE, x.file(0, 6));
    }

    private static void extent() {
        LendingDisk x = sample();
        due("first of 0", 0, x.extent(0, 0, 0));
        due("length of 0", 4, x.extent(0, 0, 1));
        due("first of 1", 8, x.extent(0, 1, 0));
        due("length of 1, with lent blocks", 4, x.extent(0, 1, 1));
        due("extent 2", LendingDisk.NONE, x.extent(0, 2, 0));
        due("extent 2's length", LendingDisk.NONE, x.extent(0, 2, 1));
        due("extreme extent", LendingDisk.NONE, x.extent(0, Integer.MAX_VALUE, 1));
        due("of another file", 4, x.extent(1, 0, 0));
        due("its length", 2, x.extent(1, 0, 1));
        due("no such file ahead of a bad value", LendingDisk.NO_SUCH, x.extent(2, -1, 5));
        due("file -1", LendingDisk.NO_SUCH, x.extent(-1, 0, 0));
        due("file 8", LendingDisk.NO_SUCH, x.extent(8, 0, 0));
        due("extent -1", LendingDisk.BAD_VALUE, x.extent(0, -1, 0));
        due("what 2", LendingDisk.BAD_VALUE, x.extent(0, 0, 2));
        due("what -1", LendingDisk.BAD_VALUE, x.extent(0, 0, -1));
        due("bad value ahead of none", LendingDisk.BAD_VALUE, x.extent(0, 5, 2));
        x.create();
        due("of a file without blocks", LendingDisk.NONE, x.extent(2, 0, 0));
    }

    /** Extents are numbered in the order of the sequence, not of the blocks. */
    private static void extentsThatGoDown() {
        LendingDisk x = new LendingDisk();
        x.set(LendingDisk.MOST, 0);
        Check.typeAll(x, "n;n;n;o0;o1;o2;a0:2=1;a1:2=2;a2:60=3;x0;d0;a1:1=4;n;o0");
        due("perform", 14, x.perform());
        // file 1: 2 to 3, then 0; 1 is free
        due("extents", 2, x.file(1, 4));
        due("first", 2, x.extent(1, 0, 0));
        due("length", 2, x.extent(1, 0, 1));
        due("second", 0, x.extent(1, 1, 0));
        due("its length", 1, x.extent(1, 1, 1));
        x.append(1, 1, 5);
        due("longer", 2, x.extent(1, 1, 1));
        due("adjacent, but in the other order", 2, x.file(1, 4));
        due("index of 1", 3, x.block(1, 2));
        due("read the last two", 9, x.read(1, 2, 2, 0));
        due("read the last", 5, x.read(1, 3, 1, 0));
        due("cut", 1, x.cut(1, 3));
        due("the last of the sequence is free", LendingDisk.NONE, x.block(1, 0));
    }

    private static void run() {
        LendingDisk x = sample();
        due("first of 0", 7, x.run(0, 0));
        due("length of 0", 1, x.run(0, 1));
        due("first of 1", 12, x.run(1, 0));
        due("length of 1", 52, x.run(1, 1));
        due("run 2", LendingDisk.NONE, x.run(2, 0));
        due("run 2's length", LendingDisk.NONE, x.run(2, 1));
        due("extreme run", LendingDisk.NONE, x.run(Integer.MAX_VALUE, 0));
        due("run -1", LendingDisk.BAD_VALUE, x.run(-1, 0));
        due("what 2", LendingDisk.BAD_VALUE, x.run(0, 2));
        due("what -1", LendingDisk.BAD_VALUE, x.run(0, -1));
        due("bad value ahead of none", LendingDisk.BAD_VALUE, x.run(5, 2));
        LendingDisk y = new LendingDisk();
        due("first of all", 0, y.run(0, 0));
        due("all", 64, y.run(0, 1));
    }

    private static void runsOfAFullDisk() {
        LendingDisk x = Check.after("n;o0;a0:64=1");
        due("run of a full disk", LendingDisk.NONE, x.run(0, 0));
        due("number of runs", 0, x.count(6));
        due("longest run", 0, x.count(7));
        x.cut(0, 63);
        due("the last block", 63, x.run(0, 0));
        due("is a run", 1, x.run(0, 1));
    }

    private static void read() {
        LendingDisk x = sample();
        due("all", 45, x.read(0, 0, 64, 0));
        due("all, their number", 6, x.read(0, 0, 64, 1));
        due("just all", 6, x.read(0, 0, 6, 1));
        due("one less", 5, x.read(0, 0, 5, 1));
        due("one less, sum", 37, x.read(0, 0, 5, 0));
        due("from 2", 15, x.read(0, 2, 2, 0));
        due("the last", 8, x.read(0, 5, 1, 0));
        due("past the last", 1, x.read(0, 5, 64, 1));
        due("behind the data, though lent", LendingDisk.NONE, x.read(0, 6, 1, 0));
        due("far behind", LendingDisk.NONE, x.read(0, 63, 64, 1));
        due("a closed file", 18, x.read(1, 0, 2, 0));
        due("no such file ahead of a bad value", LendingDisk.NO_SUCH, x.read(2, -1, 0, 9));
        due("file -1", LendingDisk.NO_SUCH, x.read(-1, 0, 1, 0));
        due("file 8", LendingDisk.NO_SUCH, x.read(8, 0, 1, 0));
        due("from -1", LendingDisk.BAD_VALUE, x.read(0, -1, 1, 0));
        due("from 64", LendingDisk.BAD_VALUE, x.read(0, 64, 1, 0));
        due("many 0", LendingDisk.BAD_VALUE, x.read(0, 0, 0, 0));
        due("many 65", LendingDisk.BAD_VALUE, x.read(0, 0, 65, 0));
        due("what -1", LendingDisk.BAD_VALUE, x.read(0, 0, 1, -1));
        due("what 2", LendingDisk.BAD_VALUE, x.read(0, 0, 1, 2));
        due("bad value ahead of none", LendingDisk.BAD_VALUE, x.read(0, 63, 65, 0));
        due("extremes", LendingDisk.BAD_VALUE, x.read(0, Integer.MAX_VALUE, Integer.MAX_VALUE, 0));
        x.create();
        due("a file without data", LendingDisk.NONE, x.read(2, 0, 1, 1));
        LendingDisk y = Check.after("n;o0;a0:64=99");
        due("a full disk", 64 * 99, y.read(0, 0, 64, 0));
        due("its last block", 1, y.read(0, 63, 64, 1));
    }

    private static void count() {
        LendingDisk x = sample();
        int[] counts = {3, 1, 53, 9, 2, 0, 2, 52, 4, 2, 0};
        for (int what = 0; what < counts.length; what++) {
            due("count(" + what + ")", counts[what], x.count(what));
        }
        x.type('n');
        x.crash();
        int[] then = {3, 0, 53, 3, 8, 8, 2, 52, 4, 3, 1};
        for (int what = 0; what < then.length; what++) {
            due("count(" + what + ") after a crash", then[what], x.count(what));
        }
        due("count(-1)", LendingDisk.BAD_VALUE, x.count(-1));
        due("count(11)", LendingDisk.BAD_VALUE, x.count(11));
        due("an extreme", LendingDisk.BAD_VALUE, x.count(Integer.MIN_VALUE));
    }

    private static void total() {
        LendingDisk x = sample();
        due("written", 10, x.total(0));
        due("given back", 3, x.total(1));
        due("givers", 0, x.total(2));
        due("lost", 0, x.total(3));
        x.crash();
        due("lost by the crash", 6, x.total(3));
        x.open(1);
        due("append with step 2", 2, x.append(1, 54, 1));
        due("givers then", 1, x.total(2));
        due("given back then", 11, x.total(1));
        due("written then", 64, x.total(0));
        due("total(-1)", LendingDisk.BAD_VALUE, x.total(-1));
        due("total(4)", LendingDisk.BAD_VALUE, x.total(4));
        due("an extreme", LendingDisk.BAD_VALUE, x.total(Integer.MAX_VALUE));
    }
}
