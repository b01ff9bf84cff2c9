/** Promises 1 to 8: a new object, create, open, close, remove, sync, append, cut. */
final class FilesTest {
    private static final Check CHECK = new Check("FilesTest");

    private static void due(String call, int want, int got) {
        CHECK.due(call, want, got);
    }

    public static void main(String[] args) {
        aNewObject();
        create();
        open();
        close();
        closeAfterAppending();
        remove();
        removeWithLentBlocks();
        sync();
        appendErrors();
        appendLends();
        appendWithinLentBlocks();
        lendDoublesToSixteen();
        mostLimitsTheLend();
        askIsLimitedByFreeBlocks();
        appendGoesOnBehindTheLastBlock();
        policies();
        longestRunIfNoneFits();
        equalRuns();
        takesBackFromTheGreatestLender();
        takesBackFromClosedFiles();
        cut();
        cutErrors();
        CHECK.end();
    }

    private static void aNewObject() {
        LendingDisk x = new LendingDisk();
        int[] counts = {0, 0, 64, 0, 0, 0, 1, 64, 0, 0, 0};
        for (int what = 0; what < counts.length; what++) {
            due("new count(" + what + ")", counts[what], x.count(what));
        }
        for (int what = 0; what < 4; what++) {
            due("new total(" + what + ")", 0, x.total(what));
        }
        for (int block = 0; block < 64; block++) {
            due("new block " + block + " owner", LendingDisk.NONE, x.block(block, 0));
            due("new block " + block + " use", 0, x.block(block, 1));
            due("new block " + block + " place", LendingDisk.NONE, x.block(block, 2));
            due("new block " + block + " stamp", 0, x.block(block, 3));
        }
        for (int file = 0; file < 8; file++) {
            due("new file " + file, LendingDisk.NO_SUCH, x.file(file, 0));
        }
        due("new undo", LendingDisk.NONE, x.undo());
        due("new restore", LendingDisk.NOT_POSSIBLE, x.restore());
        due("new fault", 0, x.fault());
        due("new most", 8, x.set(LendingDisk.MOST, 8));
        due("new policy", 0, x.set(LendingDisk.POLICY, 0));
    }

    private static void create() {
        LendingDisk x = new LendingDisk();
        for (int file = 0; file < 8; file++) {
            due("create", file, x.create());
        }
        due("create a ninth", LendingDisk.TOO_MANY, x.create());
        due("states after an error", 5, x.count(9));
        due("remove(5)", 0, x.remove(5));
        due("remove(2)", 0, x.remove(2));
        due("create the least number", 2, x.create());
        due("create the other", 5, x.create());
        int[] fresh = {0, 0, 0, 0, 0, 1};
        for (int what = 0; what < fresh.length; what++) {
            due("new file's " + what, fresh[what], x.file(2, what));
        }
        LendingDisk y = Check.after("n;o0;a0:5=1;s0;a0:4=2;x0;d0;n");
        for (int what = 0; what < fresh.length; what++) {
            due("file " + what + " with a number used before", fresh[what], y.file(0, what));
        }
    }

    private static void open() {
        LendingDisk x = new LendingDisk();
        for (int file = -2; file < 10; file++) {
            due("open without files", LendingDisk.NO_SUCH, x.open(file));
        }
        x.create();
        x.create();
        x.create();
        due("open(2)", 1, x.open(2));
        due("open(0)", 2, x.open(0));
        due("open again", LendingDisk.NOT_POSSIBLE, x.open(0));
        due("open(3)", LendingDisk.NO_SUCH, x.open(3));
        due("states", 5, x.count(9));
        due("is open", 1, x.file(0, 3));
        due("is closed", 0, x.file(1, 3));
        due("close(2)", 0, x.close(2));
        due("open(1)", 2, x.open(1));
        due("open an extreme", LendingDisk.NO_SUCH, x.open(Integer.MAX_VALUE));
        due("open the other extreme", LendingDisk.NO_SUCH, x.open(Integer.MIN_VALUE));
    }

    private static void close() {
        LendingDisk x = new LendingDisk();
        due("close without files", LendingDisk.NO_SUCH, x.close(0));
        due("close(-1)", LendingDisk.NO_SUCH, x.close(-1));
        due("close(8)", LendingDisk.NO_SUCH, x.close(8));
        x.create();
        due("close a closed one", LendingDisk.NOT_POSSIBLE, x.close(0));
        due("states after errors", 1, x.count(9));
        x.open(0);
        due("close an empty one", 0, x.close(0));
        due("states after closing", 3, x.count(9));
    }

    private static void closeAfterAppending() {
        LendingDisk x = Check.after("n;n;o0;o1;a0:3=7;a1:2=5;a0:5=6");
        // 0 to 2 data of file 0, 3 lent to it, 4 to 5 of file 1, 6 lent to it; then 4 more for
        // file 0, and 2 lent, as its lend is 2: 7 to 12
        due("lent to 0", 2, x.file(0, 1));
        due("lend of 0", 4, x.file(0, 5));
        due("close(0)", 2, x.close(0));
        due("size", 8, x.file(0, 0));
        due("lent", 0, x.file(0, 1));
        due("safe size", 8, x.file(0, 2));
        due("open", 0, x.file(0, 3));
        due("lend", 1, x.file(0, 5));
        due("given back", 2, x.total(1));
        due("files that gave in step 2", 0, x.total(2));
        due("block 10", 0, x.block(10, 0));
        due("block 11 is free", LendingDisk.NONE, x.block(11, 0));
        due("block 11 has no index", LendingDisk.NONE, x.block(11, 2));
        due("other file's lent block", 1, x.file(1, 1));
        LendingDisk y = Check.after("n;o0;a0:1=7;a0:1=7");
        due("no lent block", 0, y.file(0, 1));
        due("but a lend", 2, y.file(0, 5));
        due("close gives nothing back", 0, y.close(0));
        due("the lend is 1 all the same", 1, y.file(0, 5));
    }

    private static void remove() {
        LendingDisk x = new LendingDisk();
        due("remove without files", LendingDisk.NO_SUCH, x.remove(0));
        due("remove(-1)", LendingDisk.NO_SUCH, x.remove(-1));
        due("remove(8)", LendingDisk.NO_SUCH, x.remove(8));
        x.create();
        x.create();
        x.open(0);
        due("remove an open one", LendingDisk.NOT_POSSIBLE, x.remove(0));
        x.append(0, 4, 9);
        x.close(0);
        due("remove(0)", 4, x.remove(0));
        due("free blocks", 64, x.count(2));
        due("blocks with data", 0, x.count(3));
        due("stamp stays", 9, x.block(3, 3));
        due("lent block was not written", 0, x.block(4, 3));
        due("removed", LendingDisk.NO_SUCH, x.file(0, 0));
        due("remove again", LendingDisk.NO_SUCH, x.remove(0));
        due("the other is there", 0, x.file(1, 0));
        due("remove the other", 0, x.remove(1));
        due("no files", 0, x.count(0));
        due("given back by close alone", 1, x.total(1));
    }

    private static void removeWithLentBlocks() {
        LendingDisk x = Check.after("n;o0;a0:4=1;s0;a0:3=2;!");
        // 4 safe blocks, 2 written behind them and not safe, with lent ones behind: 0 to 8
        due("size after the crash", 4, x.file(0, 0));
        due("lent after the crash", 5, x.file(0, 1));
        due("remove counts lent blocks", 9, x.remove(0));
        due("all are free", 64, x.count(2));
        due("remove gives nothing back", 0, x.total(1));
    }

    private static void sync() {
        LendingDisk x = new LendingDisk();
        due("sync without files", LendingDisk.NO_SUCH, x.sync(0));
        due("sync(-1)", LendingDisk.NO_SUCH, x.sync(-1));
        due("sync(8)", LendingDisk.NO_SUCH, x.sync(8));
        x.create();
        due("sync a closed one", LendingDisk.NOT_POSSIBLE, x.sync(0));
        x.open(0);
        due("sync an empty one", 0, x.sync(0));
        x.append(0, 5, 1);
        due("safe before", 0, x.file(0, 2));
        due("sync", 5, x.sync(0));
        due("safe", 5, x.file(0, 2));
        due("lent stays", 1, x.file(0, 1));
        due("sync again", 0, x.sync(0));
        x.append(0, 2, 1);
        due("sync by the growth alone", 2, x.sync(0));
        due("lend stays", 4, x.file(0, 5));
        due("lent blocks stay", 2, x.file(0, 1));
        due("open stays", 1, x.file(0, 3));
    }

    private static void appendErrors() {
        LendingDisk x = new LendingDisk();
        due("no such file ahead of bad values", LendingDisk.NO_SUCH, x.append(0, 0, -1));
        due("append(-1)", LendingDisk.NO_SUCH, x.append(-1, 1, 1));
        due("append(8)", LendingDisk.NO_SUCH, x.append(8, 1, 1));
        x.create();
        due("bad blocks ahead of closed", LendingDisk.BAD_VALUE, x.append(0, 0, 1));
        due("65 blocks", LendingDisk.BAD_VALUE, x.append(0, 65, 1));
        due("stamp -1", LendingDisk.BAD_VALUE, x.append(0, 1, -1));
        due("stamp 100", LendingDisk.BAD_VALUE, x.append(0, 1, 100));
        due("closed", LendingDisk.NOT_POSSIBLE, x.append(0, 1, 1));
        x.open(0);
        due("bad blocks", LendingDisk.BAD_VALUE, x.append(0, -5, 1));
        due("extreme blocks", LendingDisk.BAD_VALUE, x.append(0, Integer.MAX_VALUE, 1));
        due("extreme stamp", LendingDisk.BAD_VALUE, x.append(0, 1, Integer.MIN_VALUE));
        due("stamp 0 and 1 block", 1, x.append(0, 1, 0));
        due("63 blocks and stamp 99", 1, x.append(0, 63, 99));
        due("full", LendingDisk.NOT_POSSIBLE, x.append(0, 1, 99));
        due("bad value ahead of full", LendingDisk.BAD_VALUE, x.append(0, 65, 99));
        due("states", 4, x.count(9));
        due("written", 64, x.total(0));
        LendingDisk y = Check.after("n;n;o0;o1;a0:30=1;a1:30=1");
        due("too few blocks", LendingDisk.NOT_POSSIBLE, y.append(0, 5, 2));
        due("nothing is given back then", 1, y.file(1, 1));
        due("no file gave", 0, y.total(2));
        due("size stays", 30, y.file(0, 0));
        due("as many as there are", 2, y.append(0, 4, 2));
        due("the other gave its lent block", 0, y.file(1, 1));
    }

    private static void appendLends() {
        LendingDisk x = new LendingDisk();
        x.create();
        x.open(0);
        due("first append", 1, x.append(0, 3, 42));
        due("size", 3, x.file(0, 0));
        due("lent", 1, x.file(0, 1));
        due("safe", 0, x.file(0, 2));
        due("lend", 2, x.file(0, 5));
        due("stamp", 42, x.block(2, 3));
        due("lent block's stamp", 0, x.block(3, 3));
        due("written", 3, x.total(0));
        due("states", 3, x.count(9));
        due("extents with a lent block apart", 1, x.file(0, 4));
    }

    private static void appendWithinLentBlocks() {
        LendingDisk x = Check.after("n;o0;a0:1=1;a0:2=2;a0:2=3");
        // 0; 1 lent. Then need 1, lend 2: 1 to 4, of which 3 and 4 stay lent. Then 2 of 2.
        due("size", 5, x.file(0, 0));
        due("lent", 0, x.file(0, 1));
        due("lend is not touched", 4, x.file(0, 5));
        due("need 0 asks for nothing", 59, x.count(2));
        due("stamps", 1 + 2 + 2 + 3 + 3, x.read(0, 0, 64, 0));
        due("next", 1, x.append(0, 1, 4));
        due("lent then", 4, x.file(0, 1));
        due("less than is lent", 1, x.append(0, 3, 5));
        due("one is left", 1, x.file(0, 1));
        due("lend after", 8, x.file(0, 5));
    }

    private static void lendDoublesToSixteen() {
        LendingDisk x = new LendingDisk();
        x.set(LendingDisk.MOST, 16);
        x.create();
        x.open(0);
        int[] lends = {2, 4, 8, 16, 16};
        int[] lent = {1, 2, 4, 8, 16};
        for (int i = 0; i < lends.length; i++) {
            due("append all", 1, x.append(0, x.file(0, 1) + 1, i));
            due("lend " + i, lends[i], x.file(0, 5));
            due("lent " + i, lent[i], x.file(0, 1));
        }
    }

    private static void mostLimitsTheLend() {
        LendingDisk x = new LendingDisk();
        x.set(LendingDisk.MOST, 3);
        x.create();
        x.open(0);
        int[] lends = {2, 4, 8, 16};
        int[] lent = {1, 2, 3, 3};
        for (int i = 0; i < lends.length; i++) {
            x.append(0, x.file(0, 1) + 1, i);
            due("lend with most 3", lends[i], x.file(0, 5));
            due("lent with most 3", lent[i], x.file(0, 1));
        }
        x.set(LendingDisk.MOST, 0);
        x.append(0, 4, 1);
        due("nothing is lent with most 0", 0, x.file(0, 1));
        due("the lend stays", 16, x.file(0, 5));
        LendingDisk y = new LendingDisk();
        y.set(LendingDisk.MOST, 0);
        y.create();
        y.open(0);
        y.append(0, 2, 1);
        due("ask is need", 0, y.file(0, 1));
        due("lend 1 stays", 1, y.file(0, 5));
    }

    private static void askIsLimitedByFreeBlocks() {
        LendingDisk x = Check.after("n;o0;a0:10=1;a0:2=1;a0:3=1");
        // lends 1, 2, 4: lent 1, 2, 4; size 15, 19 blocks
        due("blocks", 45, x.count(2));
        due("lend", 8, x.file(0, 5));
        due("append 47", 1, x.append(0, 47, 1));
        due("fewer than the lend are lent", 2, x.file(0, 1));
        due("and the lend doubles all the same", 16, x.file(0, 5));
        LendingDisk y = Check.after("n;o0;a0:64=1");
        due("none is lent", 0, y.file(0, 1));
        due("lend stays", 1, y.file(0, 5));
    }

    private static void appendGoesOnBehindTheLastBlock() {
        LendingDisk x = Check.after("n;n;n;o0;o1;o2;a0:3=1;a1:3=2;a2:3=3;x0;x1;x2;d1;o0");
        // 0 to 2 of file 0, 3 and 4 to 7 free, 8 to 10 of file 2, the rest free
        due("run", 3, x.run(0, 0));
        due("run length", 5, x.run(0, 1));
        due("append", 1, x.append(0, 2, 4));
        due("block 3", 0, x.block(3, 0));
        due("block 5 lent", 2, x.block(5, 1));
        due("append further", 2, x.append(0, 3, 5));
        // need 2, lend 2: 6 and 7 behind the last one, then 11 and 12
        due("extent 0", 8, x.extent(0, 0, 1));
        due("extent 1", 11, x.extent(0, 1, 0));
        due("extent 1's length", 2, x.extent(0, 1, 1));
        due("index", 8, x.block(11, 2));
        due("stamp 8", 3, x.block(8, 3));
        LendingDisk y = new LendingDisk();
        y.set(LendingDisk.MOST, 0);
        Check.typeAll(y, "n;n;n;o0;o1;o2;a0:1=1;a1:3=2;a2:1=3;x1;d1");
        due("perform", 11, y.perform());
        due("append to a file of one block", 2, y.append(0, 5, 4));
        due("behind it first", 4, y.extent(0, 0, 1));
        due("the rest further on", 5, y.extent(0, 1, 0));
    }

    /** Files of 4, 1, 6, 1, 5 and 1 blocks from block 0 on, of which 0, 2 and 4 are removed. */
    private static LendingDisk withHoles(int policy) {
        LendingDisk x = new LendingDisk();
        x.set(LendingDisk.MOST, 0);
        int[] blocks = {4, 1, 6, 1, 5, 1};
        for (int file = 0; file < blocks.length; file++) {
            x.create();
            x.open(file);
            x.append(file, blocks[file], file);
            x.close(file);
        }
        x.remove(0);
        x.remove(2);
        x.remove(4);
        x.set(LendingDisk.POLICY, policy);
        x.create();
        x.open(0);
        return x;
    }

    private static void policies() {
        int[][] firsts = {{0, 0, 12, 12, 5, 18}, {0, 0, 5, 5, 5, 18}};
        int[] blocks = {1, 4, 5, 5, 6, 7};
        for (int policy = 0; policy < 2; policy++) {
            for (int i = 0; i < blocks.length; i++) {
                LendingDisk x = withHoles(policy);
                due("append " + blocks[i] + " with policy " + policy, 1, x.append(0, blocks[i], 9));
                due("first block with policy " + policy, firsts[policy][i], x.extent(0, 0, 0));
            }
        }
        LendingDisk y = withHoles(0);
        y.set(LendingDisk.MOST, 1);
        y.append(0, 4, 9);
        due("lent blocks count for the choice, too", 12, y.extent(0, 0, 0));
    }

    private static void longestRunIfNoneFits() {
        for (int policy = 0; policy < 2; policy++) {
            LendingDisk x = withHoles(policy);
            x.create();
            x.open(2);
            x.append(2, 46, 3);
            due("the end is taken", 18, x.extent(2, 0, 0));
            // 0 to 3, 5 to 10, 12 to 16 are free
            due("append 8", 2, x.append(0, 8, 7));
            due("the longest first", 5, x.extent(0, 0, 0));
            due("it whole", 6, x.extent(0, 0, 1));
            due("then one that fits", 0, x.extent(0, 1, 0));
            LendingDisk y = withHoles(policy);
            y.create();
            y.open(2);
            y.append(2, 46, 3);
            due("append 14", 3, y.append(0, 14, 7));
            due("longest", 5, y.extent(0, 0, 0));
            due("second longest", 12, y.extent(0, 1, 0));
            due("the rest", 0, y.extent(0, 2, 0));
            due("as much as is due of it", 3, y.extent(0, 2, 1));
        }
    }

    private static void equalRuns() {
        for (int policy = 0; policy < 2; policy++) {
            for (int blocks = 3; blocks < 8; blocks++) {
                LendingDisk x = new LendingDisk();
                x.set(LendingDisk.MOST, 0);
                x.set(LendingDisk.POLICY, policy);
                int[] sizes = {3, 1, 3, 57};
                for (int file = 0; file < sizes.length; file++) {
                    x.create();
                    x.open(file);
                    x.append(file, sizes[file], 1);
                    x.close(file);
                }
                x.remove(0);
                x.remove(2);
                x.create();
                x.open(0);
                boolean fits = blocks <= 6;
                due("append to equal runs", fits ? blocks == 3 ? 1 : 2 : -4, x.append(0, blocks, 2));
                due("the lower one of equal runs", fits ? 0 : -5, x.extent(0, 0, 0));
            }
        }
    }

    private static void takesBackFromTheGreatestLender() {
        LendingDisk x = new LendingDisk();
        x.set(LendingDisk.MOST, 16);
        Check.typeAll(x, "n;n;n;n;o0;o1;o2;o3;a0:1=1;a1:1=1;a1:2=1;a2:1=1;a2:2=1;a3:40=1");
        due("perform", 14, x.perform());
        // lent: 1, 2, 2, 1; sizes: 1, 3, 3, 40; free: 64 - 53 = 11
        due("free", 11, x.count(2));
        due("need as many as are free", 1, x.file(0, 1));
        due("append 12", 2, x.append(0, 12, 2));
        due("none gave", 0, x.total(2));
        LendingDisk y = Check.after("n;n;n;n;o0;o1;o2;o3;a0:1=1;a1:1=1;a1:2=1;a2:1=1;a2:2=1;a3:40=1");
        y.append(0, 13, 2);
        due("one gave", 1, y.total(2));
        due("the lowest of the greatest", 0, y.file(1, 1));
        due("its lend is 1", 1, y.file(1, 5));
        due("the other did not", 2, y.file(2, 1));
        due("the other's lend stays", 4, y.file(2, 5));
        due("given back", 2, y.total(1));
        due("lent to the file", 1, y.file(0, 1));
        due("states", 2, y.count(9));
        LendingDisk z = Check.after("n;n;n;n;o0;o1;o2;o3;a0:1=1;a1:1=1;a1:2=1;a2:1=1;a2:2=1;a3:40=1");
        z.append(0, 17, 2);
        due("all gave", 3, z.total(2));
        due("five were given back", 5, z.total(1));
        due("nothing is left", 0, z.count(2));
        due("nothing is lent", 0, z.count(4));
        due("ask was need", 2, z.file(0, 5));
    }

    private static void takesBackFromClosedFiles() {
        LendingDisk x = Check.after("n;n;o0;a0:30=1;!;o1");
        due("lent to a closed file", 31, x.count(5));
        due("append 40", 1, x.append(1, 40, 5));
        due("the closed file gave", 1, x.total(2));
        due("its blocks", 31, x.total(1));
        due("it is empty", 0, x.file(0, 4));
        // all is one free run then: need 40 and lend 1
        due("first extent", 0, x.extent(1, 0, 0));
        due("is all", 41, x.extent(1, 0, 1));
    }

    private static void cut() {
        LendingDisk x = Check.after("n;o0;a0:5=3;s0;a0:4=4");
        // need 3 and lend 2: 6 blocks, then 5 more; size 9, lent 2
        due("cut to 7", 4, x.cut(0, 7));
        due("size", 7, x.file(0, 0));
        due("lent", 0, x.file(0, 1));
        due("safe", 5, x.file(0, 2));
        due("lend", 1, x.file(0, 5));
        due("open", 1, x.file(0, 3));
        due("given back without data", 2, x.total(1));
        due("none in step 2", 0, x.total(2));
        due("free", 57, x.count(2));
        due("stamp stays", 4, x.block(8, 3));
        due("cut to its size", 0, x.cut(0, 7));
        due("cut to 2", 5, x.cut(0, 2));
        due("safe with it", 2, x.file(0, 2));
        due("still given back", 2, x.total(1));
        due("cut to 0", 2, x.cut(0, 0));
        due("no blocks", 64, x.count(2));
        due("cut an empty one", 0, x.cut(0, 0));
        LendingDisk y = Check.after("n;o0;a0:5=3");
        due("cut to the same size", 1, y.cut(0, 5));
        due("lend 1", 1, y.file(0, 5));
        due("given back", 1, y.total(1));
        due("safe stays", 0, y.file(0, 2));
        due("states", 2, y.count(9));
    }

    private static void cutErrors() {
        LendingDisk x = new LendingDisk();
        due("no such file ahead of a bad value", LendingDisk.NO_SUCH, x.cut(0, -1));
        due("cut(-1)", LendingDisk.NO_SUCH, x.cut(-1, 0));
        due("cut(8)", LendingDisk.NO_SUCH, x.cut(8, 0));
        x.create();
        due("bad value ahead of closed", LendingDisk.BAD_VALUE, x.cut(0, 65));
        due("size -1", LendingDisk.BAD_VALUE, x.cut(0, -1));
        due("closed", LendingDisk.NOT_POSSIBLE, x.cut(0, 0));
        x.open(0);
        due("above its size", LendingDisk.NOT_POSSIBLE, x.cut(0, 1));
        x.append(0, 3, 1);
        due("lent blocks are not its size", LendingDisk.NOT_POSSIBLE, x.cut(0, 4));
        due("64 is above its size", LendingDisk.NOT_POSSIBLE, x.cut(0, 64));
        due("extreme", LendingDisk.BAD_VALUE, x.cut(0, Integer.MIN_VALUE));
        due("states", 3, x.count(9));
        due("nothing changed", 1, x.file(0, 1));
    }
}
