/** The edges of files: "Files" of the terms, and promises 2 to 6, 20, 21. */
final class EdgeFilesTest {
    private static final Check CHECK = new Check("EdgeFilesTest");
    private static final int NONE = LendingDisk.NONE;

    private static Run run(String sentence) {
        return new Run(CHECK, sentence);
    }

    public static void main(String[] args) {
        atMostEight();
        leastNumber();
        leastOfSeveralNumbers();
        newFile();
        newFileWithAnOldNumber();
        dataAndLent();
        sizes();
        lends();
        safeSizes();
        extentsOfOneAndOf64();
        extentsGoUpByOne();
        extentsOfLentBlocks();
        open();
        close();
        closeGivesBack();
        remove();
        sync();
        CHECK.end();
    }

    private static void atMostEight() {
        Run run = run("There are at most 8 files").due("count 0", 0);
        for (int file = 0; file < 8; file++) {
            run.dueUnchanged("file " + file + " 0", -1).due("create", file).due("count 0", file + 1);
        }
        run.dueUnchanged("create", -3).dueUnchanged("create", -3).due("count 0", 8);
        run.dueUnchanged("file 8 0", -1).dueUnchanged("file -1 0", -1);
        run.dueUnchanged("file min 0", -1).dueUnchanged("file max 0", -1);
        run.due("remove 7", 0).due("create", 7).dueUnchanged("create", -3);
    }

    private static void leastNumber() {
        for (int file = 0; file < 8; file++) {
            Run run = run("the number of a new file is the least number from 0 to 7 that no file has");
            run.made("create; create; create; create; create; create; create; create");
            run.made("remove " + file).dueUnchanged("file " + file + " 0", -1).due("count 0", 7);
            run.due("create", file).due("file " + file + " 0", 0).dueUnchanged("create", -3);
        }
    }

    private static void leastOfSeveralNumbers() {
        run("the least number of several").made("create; create; create; create; create; create; create; create")
            .made("remove 7; remove 0; remove 3").due("create", 0).due("create", 3).due("create", 7)
            .dueUnchanged("create", -3);
        run("the least number behind the others").made("create; create; create; remove 1")
            .due("create", 1).due("create", 3).made("remove 0; remove 1; remove 2; remove 3").due("create", 0);
    }

    private static void newFile() {
        int[] fresh = {0, 0, 0, 0, 0, 1};
        for (int file = 0; file < 8; file++) {
            Run run = run("A new file has no blocks; it is closed, with the safe size 0 and the lend 1.");
            for (int other = 0; other < file; other++) {
                run.made("create; open " + other + "; append " + other + " 3 9; sync " + other);
            }
            run.made("create").due("count 1", file);
            for (int what = 0; what < fresh.length; what++) {
                run.due("file " + file + " " + what, fresh[what]);
            }
            run.due("extent " + file + " 0 0", NONE).due("read " + file + " 0 1 1", NONE);
        }
    }

    private static void newFileWithAnOldNumber() {
        String[] lives = {"append 0 5 1; append 0 2 1; append 0 3 1; sync 0; close 0; remove 0",
            "append 0 5 1; sync 0; append 0 9 2; crash; remove 0", "append 0 64 1; close 0; remove 0",
            "append 0 64 1; crash; remove 0"};
        int[] fresh = {0, 0, 0, 0, 0, 1};
        for (String life : lives) {
            Run run = run("A new file has no blocks, though its number was had before");
            run.made("set 0 16; create; open 0").made(life).due("create", 0);
            for (int what = 0; what < fresh.length; what++) {
                run.due("file 0 " + what, fresh[what]);
            }
            run.due("count 2", 64).due("count 3", 0).due("count 4", 0).due("count 8", 0);
            run.due("open 0", 1).due("append 0 1 3", 1).due("file 0 1", 1).due("file 0 2", 0);
        }
    }

    private static void dataAndLent() {
        run("its first blocks hold its data, the others are lent to it")
            .made("create; open 0; append 0 3 7").due("file 0 0", 3).due("file 0 1", 1)
            .due("block 2 1", 1).due("block 3 1", 2).due("block 4 1", 0)
            .due("block 2 2", 2).due("block 3 2", 3).due("block 4 2", NONE).due("block 3 0", 0);
        run("no block holds data, all are lent").made("create; open 0; append 0 3 7; crash")
            .due("file 0 0", 0).due("file 0 1", 4).due("block 0 1", 2).due("block 3 1", 2).due("block 4 1", 0);
        run("all blocks hold data, none is lent").made("create; open 0; append 0 3 7; close 0")
            .due("file 0 0", 3).due("file 0 1", 0).due("block 2 1", 1).due("block 3 1", 0);
    }

    private static void sizes() {
        run("Its size is the number of blocks that hold data.").made("create; open 0")
            .due("file 0 0", 0).due("append 0 63 1", 1).due("file 0 0", 63).due("file 0 1", 1)
            .due("append 0 1 1", 1).due("file 0 0", 64).due("file 0 1", 0)
            .dueUnchanged("append 0 1 1", -4).due("cut 0 1", 63).due("file 0 0", 1);
    }

    private static void lends() {
        Run run = run("it has a lend, a number from 1 to 16").made("set 0 16; create").due("file 0 5", 1).made("open 0");
        int[] lends = {1, 2, 4, 8, 16, 16};
        int size = 0;
        for (int turn = 0; turn < 5; turn++) {
            int blocks = turn == 0 ? 1 : lends[turn - 1] + 1;
            size += blocks;
            run.due("append 0 " + blocks + " 1", 1).due("file 0 5", lends[turn + 1]);
            run.due("file 0 1", lends[turn]).due("file 0 0", size);
        }
        run.due("close 0", 16).due("file 0 5", 1).due("open 0", 1).due("file 0 5", 1);
    }

    private static void safeSizes() {
        run("A file has a safe size (at most its size)").made("create; open 0; append 0 64 1")
            .due("file 0 2", 0).due("sync 0", 64).due("file 0 2", 64).due("cut 0 63", 1).due("file 0 2", 63)
            .due("append 0 1 1", 1).due("file 0 2", 63).due("cut 0 63", 1).due("file 0 2", 63)
            .due("cut 0 0", 63).due("file 0 2", 0).due("sync 0", 0);
    }

    private static void extentsOfOneAndOf64() {
        Run run = Layouts.allApart(CHECK, "extents are numbered from 0, in the order of the sequence: the most of them");
        run.due("file 1 4", 64).due("count 8", 64).due("wholeness", 1.0 / 64.0);
        for (int extent = 0; extent < 64; extent++) {
            run.due("extent 1 " + extent + " 0", extent < 32 ? 2 * extent + 1 : 2 * extent - 64);
            run.due("extent 1 " + extent + " 1", 1);
        }
        run.dueUnchanged("extent 1 64 0", NONE).dueUnchanged("extent 1 64 1", NONE);
        run("An extent of a file is a largest part of its sequence: all of it").made("create; open 0; append 0 64 1")
            .due("file 0 4", 1).due("extent 0 0 0", 0).due("extent 0 0 1", 64).due("extent 0 1 0", NONE);
        run("no extent").made("create").due("file 0 4", 0)
            .dueUnchanged("extent 0 0 0", NONE).dueUnchanged("extent 0 0 1", NONE)
            .made("open 0; append 0 5 5; cut 0 0").due("file 0 4", 0).dueUnchanged("extent 0 0 0", NONE);
    }

    private static void extentsGoUpByOne() {
        Layouts.holes(CHECK, "each block is followed by the next higher block number: not by the next lower", 0,
            new int[] {1, 1, 62}, 0).made("open 1").due("append 1 1 9", 2)
            .due("extent 1 0 0", 1).due("extent 1 0 1", 1).due("extent 1 1 0", 0).due("extent 1 1 1", 1)
            .due("extent 1 2 0", NONE);
        Layouts.holes(CHECK, "each block is followed by the next higher block number: 63 not by 0", 0,
            new int[] {1, 62, 1}, 0).made("open 2").due("append 2 1 9", 2)
            .due("extent 2 0 0", 63).due("extent 2 1 0", 0).due("block 63 2", 0).due("block 0 2", 1);
        Layouts.holes(CHECK, "each block is followed by the next higher block number: not by one further on", 0,
            new int[] {1, 1}).made("open 0").due("append 0 1 9", 2)
            .due("extent 0 0 0", 0).due("extent 0 0 1", 1).due("extent 0 1 0", 2).due("extent 0 1 1", 1);
        run("a largest part: of two appends, too").made("set 0 0; create; open 0").due("append 0 1 1", 1)
            .due("append 0 1 1", 1).due("extent 0 0 1", 2).due("extent 0 1 0", NONE);
        run("what was cut and appended again").made("set 0 0; create; create; open 0; open 1; append 0 3 1; append 1 1 1")
            .due("append 0 2 1", 2).due("cut 0 4", 1).due("file 0 4", 2).due("cut 0 3", 1).due("file 0 4", 1)
            .due("append 0 1 1", 2).due("extent 0 1 0", 4);
    }

    private static void extentsOfLentBlocks() {
        run("an extent goes on with lent blocks").made("create; open 0; append 0 3 1")
            .due("file 0 4", 1).due("extent 0 0 1", 4).due("count 8", 1).due("wholeness", 1.0);
        run("extents of lent blocks alone").made("create; open 0; append 0 3 1; crash")
            .due("file 0 4", 1).due("extent 0 0 0", 0).due("extent 0 0 1", 4).due("count 8", 1).due("wholeness", 1.0);
        Layouts.everySecond(CHECK, "the number of extents of the file afterwards (those with lent blocks, too)")
            .made("set 0 1").due("append 1 1 3", 34).due("file 1 1", 1).due("block 0 1", 1).due("block 2 1", 2)
            .due("extent 1 33 0", 2).due("extent 1 34 0", NONE).due("close 1", 1).due("file 1 4", 33);
    }

    private static void open() {
        Run run = run("Opens a file. Returns the number of open files");
        run.dueUnchanged("open 0", -1).made("create; create; create; create; create; create; create; create");
        run.dueUnchanged("open min", -1).dueUnchanged("open -1", -1).dueUnchanged("open 8", -1).dueUnchanged("open max", -1);
        for (int file = 7; file >= 0; file--) {
            run.due("file " + file + " 3", 0).due("open " + file, 8 - file).due("file " + file + " 3", 1);
            run.dueUnchanged("open " + file, -4);
        }
        run.due("count 1", 8).due("close 7", 0).due("count 1", 7).due("open 7", 8).due("close 0", 0).due("open 0", 8);
        run("open keeps all but that it is open").made("create; create; open 0; append 0 5 1; sync 0; append 0 4 2; crash")
            .due("open 1", 1).due("open 0", 2).due("file 0 0", 5).due("file 0 1", 6).due("file 0 2", 5)
            .due("file 0 5", 1).due("total 1", 0).due("count 2", 53);
    }

    private static void close() {
        Run run = run("Closes a file.").dueUnchanged("close 0", -1);
        run.made("create; create; create; create; create; create; create; create");
        run.dueUnchanged("close min", -1).dueUnchanged("close -1", -1).dueUnchanged("close 8", -1).dueUnchanged("close max", -1);
        for (int file = 0; file < 8; file++) {
            run.dueUnchanged("close " + file, -4);
        }
        run.made("open 0; open 7").due("close 7", 0).dueUnchanged("close 7", -4).due("close 0", 0);
        run.dueUnchanged("close 0", -4).due("count 1", 0).made("remove 0").dueUnchanged("close 0", -1);
    }

    private static void closeGivesBack() {
        run("its lent blocks are given back, its safe size becomes its size: none")
            .made("create; open 0").due("close 0", 0).due("file 0 2", 0).due("file 0 3", 0)
            .due("open 0", 1).made("append 0 64 1").due("close 0", 0).due("file 0 2", 64).due("file 0 5", 1);
        run("its lent blocks are given back: some").made("create; open 0; append 0 2 1; sync 0; append 0 3 1")
            .due("file 0 1", 2).due("file 0 5", 4).due("close 0", 2).due("file 0 0", 5).due("file 0 1", 0)
            .due("file 0 2", 5).due("file 0 5", 1).due("count 2", 59).due("total 1", 2).due("total 2", 0);
        run("its lent blocks are given back: all there are").made("create; open 0; append 0 64 1; crash; open 0")
            .due("close 0", 64).due("file 0 2", 0).due("count 2", 64).due("total 1", 64);
        run("a lend without lent blocks").made("create; open 0; append 0 1 1; append 0 1 1")
            .due("file 0 1", 0).due("file 0 5", 2).due("close 0", 0).due("file 0 5", 1).due("total 1", 0);
    }

    private static void remove() {
        Run run = run("Removes a closed file; its blocks are free then.").dueUnchanged("remove 0", -1);
        run.made("create; create; create; create; create; create; create; create");
        run.dueUnchanged("remove min", -1).dueUnchanged("remove -1", -1).dueUnchanged("remove 8", -1);
        run.dueUnchanged("remove max", -1).made("open 0; open 7").dueUnchanged("remove 0", -4);
        run.dueUnchanged("remove 7", -4).made("append 0 10 1; append 7 5 2; close 0; close 7");
        run.due("remove 0", 10).dueUnchanged("remove 0", -1).due("count 2", 59).due("count 3", 5);
        run.due("remove 7", 5).dueUnchanged("remove 7", -1).due("count 2", 64).due("count 0", 6).due("remove 3", 0);
        run("Returns the number of its blocks: all of them").made("create; open 0; append 0 64 1; close 0")
            .due("remove 0", 64).due("count 2", 64).due("count 3", 0).due("total 1", 0);
        run("Returns the number of its blocks: all lent").made("create; open 0; append 0 64 1; crash")
            .due("remove 0", 64).due("count 2", 64).due("count 4", 0).due("total 1", 0);
        run("Returns the number of its blocks: data and lent ones")
            .made("create; create; open 0; open 1; append 0 4 1; append 1 2 5; sync 0; append 0 3 2; crash")
            .due("remove 0", 9).due("file 1 1", 3).due("count 4", 3).due("total 1", 0);
    }

    private static void sync() {
        Run run = run("Makes an open file safe: its safe size becomes its size.").dueUnchanged("sync 0", -1);
        run.made("create; create; create; create; create; create; create; create");
        run.dueUnchanged("sync min", -1).dueUnchanged("sync -1", -1).dueUnchanged("sync 8", -1).dueUnchanged("sync max", -1);
        run.dueUnchanged("sync 0", -4).dueUnchanged("sync 7", -4).made("open 0; open 7");
        run.due("sync 0", 0).due("sync 7", 0).made("append 7 64 3").due("sync 0", 0).due("sync 7", 64).due("sync 7", 0);
        run("Returns by how much the safe size grows").made("create; open 0; append 0 5 1")
            .due("sync 0", 5).due("append 0 1 1", 1).due("sync 0", 1).due("append 0 7 1", 1).due("sync 0", 7)
            .due("cut 0 3", 12).due("sync 0", 0).due("file 0 2", 3).due("total 0", 13);
    }
}
