/** The edges of the other changes: cut, crash and mend, promises 8 to 10. */
final class EdgeChangesTest {
    private static final Check CHECK = new Check("EdgeChangesTest");
    private static final int NONE = LendingDisk.NONE;

    private static Run run(String sentence) {
        return new Run(CHECK, sentence);
    }

    public static void main(String[] args) {
        cutSizes();
        cutOfAFullDisk();
        cutToTheSameSize();
        cutWithLentBlocks();
        cutOfLentBlocksAlone();
        cutAndSafeSize();
        cutOfSeveralExtents();
        crashWithoutFiles();
        crashOfEight();
        crashOfAllAndNothing();
        crashToTheSafeSize();
        crashFreesNothing();
        mendWithoutFiles();
        mendOfEight();
        mendOfClosedFilesAlone();
        mendOfAll();
        givenBackBlocksAreFree();
        CHECK.end();
    }

    private static void cutSizes() {
        run("size: 0 to 64").made("create; open 0; append 0 5 1")
            .dueUnchanged("cut 0 min", -2).dueUnchanged("cut 0 -1", -2).dueUnchanged("cut 0 65", -2)
            .dueUnchanged("cut 0 max", -2).dueUnchanged("cut 0 6", -4).dueUnchanged("cut 0 7", -4)
            .dueUnchanged("cut 0 64", -4).due("cut 0 5", 1).due("cut 0 4", 1).due("cut 0 0", 4)
            .due("cut 0 0", 0).dueUnchanged("cut 0 1", -4).dueUnchanged("cut 0 -1", -2);
        Run run = run("Cuts an open file.").dueUnchanged("cut 0 0", -1);
        run.made("create; create; create; create; create; create; create; create");
        run.dueUnchanged("cut min 0", -1).dueUnchanged("cut -1 0", -1).dueUnchanged("cut 8 0", -1).dueUnchanged("cut max 0", -1);
        run.dueUnchanged("cut 0 0", -4).dueUnchanged("cut 7 0", -4).made("open 0; open 7").due("cut 0 0", 0).due("cut 7 0", 0);
    }

    private static void cutOfAFullDisk() {
        run("size: 64 of 64").made("create; open 0; append 0 64 1").due("cut 0 64", 0)
            .due("file 0 0", 64).dueUnchanged("cut 0 65", -2).due("cut 0 63", 1).due("run 0 0", 63).due("count 2", 1)
            .dueUnchanged("cut 0 64", -4).due("cut 0 1", 62).due("run 0 0", 1).due("file 0 0", 1).due("cut 0 0", 1)
            .due("count 2", 64).due("file 0 4", 0).due("total 1", 0);
        run("size: 0 of 64").made("create; open 0; append 0 64 1").due("cut 0 0", 64).due("count 2", 64)
            .due("file 0 0", 0).due("file 0 3", 1).due("read 0 0 64 1", NONE).due("total 1", 0);
    }

    private static void cutToTheSameSize() {
        run("To cut a file to the same size: its lent blocks are given back").made("create; open 0; append 0 2 1; append 0 3 1")
            .due("file 0 1", 2).due("file 0 5", 4).due("cut 0 5", 2).due("file 0 0", 5).due("file 0 1", 0)
            .due("file 0 5", 1).due("file 0 3", 1).due("total 1", 2).due("total 2", 0);
        run("To cut a file to the same size: without lent blocks").made("create; open 0; append 0 1 1; append 0 1 1")
            .due("file 0 1", 0).due("file 0 5", 2).due("cut 0 2", 0).due("file 0 5", 1).due("total 1", 0);
    }

    private static void cutWithLentBlocks() {
        run("Returns the number of blocks that become free: lent ones and those behind the new size")
            .made("create; open 0; append 0 2 1; append 0 3 1").due("cut 0 4", 3).due("count 2", 60)
            .due("file 0 0", 4).due("file 0 1", 0).due("total 1", 2).due("cut 0 3", 1).due("total 1", 2);
        run("it begins with the lend 1 again").made("create; open 0; append 0 2 1; append 0 3 1; cut 0 1")
            .due("append 0 1 9", 1).due("file 0 1", 1).due("file 0 5", 2).due("block 1 3", 9);
    }

    private static void cutOfLentBlocksAlone() {
        run("its lent blocks are given back: there is no data").made("create; open 0; append 0 64 1; crash; open 0")
            .dueUnchanged("cut 0 1", -4).due("cut 0 0", 64).due("count 2", 64).due("total 1", 64).due("file 0 4", 0);
    }

    private static void cutAndSafeSize() {
        int[] news = {9, 7, 6, 5, 4, 1, 0};
        int[] safe = {5, 5, 5, 5, 4, 1, 0};
        for (int i = 0; i < news.length; i++) {
            run("the lesser one of the safe size and the new size, " + news[i])
                .made("create; open 0; append 0 5 1; sync 0; append 0 4 1").made("cut 0 " + news[i])
                .due("file 0 0", news[i]).due("file 0 2", safe[i]).due("sync 0", news[i] - safe[i]);
        }
    }

    private static void cutOfSeveralExtents() {
        Run run = Layouts.allApart(CHECK, "the blocks behind the new size are free then");
        run.again("cut to one extent").due("cut 1 1", 63).due("file 1 4", 1).due("extent 1 0 0", 1).due("count 6", 2);
        run.again("cut to the half").due("cut 1 32", 32).due("file 1 4", 32).due("extent 1 31 0", 63)
            .due("extent 1 32 0", NONE).due("run 0 0", 0).due("run 31 0", 62).due("count 6", 32);
        run.again("cut by one").due("cut 1 63", 1).due("run 0 0", 62).due("count 6", 1).due("extent 1 62 0", 60);
        run.due("cut 1 0", 64).due("run 0 1", 64).due("count 8", 0);
    }

    private static void crashWithoutFiles() {
        run("A crash: without files").due("crash", 0).due("count 9", 1).due("count 0", 0).due("total 3", 0)
            .due("count 2", 64).due("undo", 0);
        run("A crash: of files without blocks").made("create; create; open 1").due("crash", 0).due("count 0", 2)
            .due("count 1", 0).due("file 1 3", 0).dueUnchanged("close 1", -4);
    }

    private static void crashOfEight() {
        Run run = Layouts.eight(CHECK, "A crash: for each file").made("sync 0; sync 7; close 3");
        run.due("crash", 5).due("count 1", 0).due("count 0", 8).due("total 3", 5);
        for (int file = 0; file < 8; file++) {
            boolean safe = file == 0 || file == 7 || file == 3;
            run.due("file " + file + " 0", safe ? 1 : 0).due("file " + file + " 1", safe ? file == 3 ? 0 : 1 : 2);
            run.due("file " + file + " 2", safe ? 1 : 0).due("file " + file + " 3", 0).due("file " + file + " 5", 1);
        }
        run.due("count 2", 49).due("count 4", 12).due("count 5", 12).due("count 3", 3);
    }

    private static void crashOfAllAndNothing() {
        run("blocks that held data before, and do not afterwards: 64").made("create; open 0; append 0 64 1")
            .due("crash", 64).due("total 3", 64).due("count 3", 0).due("count 5", 64).due("crash", 0).due("total 3", 64);
        run("blocks that held data before, and do not afterwards: none of 64").made("create; open 0; append 0 64 1; sync 0")
            .due("crash", 0).due("total 3", 0).due("count 3", 64).due("file 0 3", 0);
        run("blocks that held data before, and do not afterwards: one").made("create; open 0; append 0 63 1; sync 0; append 0 1 1")
            .due("crash", 1).due("total 3", 1).due("file 0 0", 63).due("file 0 1", 1);
        run("lent blocks held no data before").made("create; open 0; append 0 5 1; sync 0").due("file 0 1", 1)
            .due("crash", 0).due("file 0 1", 1).due("file 0 5", 1);
    }

    private static void crashToTheSafeSize() {
        run("its size becomes its safe size (blocks that held data behind it are lent then)")
            .made("create; open 0; append 0 5 11; sync 0; append 0 4 22").due("crash", 4).due("file 0 0", 5)
            .due("file 0 2", 5).due("block 4 1", 1).due("block 5 1", 2).due("block 5 2", 5).due("block 5 3", 22)
            .due("read 0 0 64 0", 55).due("read 0 4 64 1", 1).dueUnchanged("read 0 5 1 1", NONE);
        run("its size becomes its safe size: after a cut below it")
            .made("create; open 0; append 0 5 11; sync 0; cut 0 2; append 0 3 9")
            .due("crash", 3).due("file 0 0", 2);
        run("its size becomes its safe size: closing makes it safe")
            .made("create; open 0; append 0 5 11; close 0; open 0; append 0 1 9")
            .due("crash", 1).due("file 0 0", 5).due("file 0 1", 2);
    }

    private static void crashFreesNothing() {
        run("No blocks become free.").made("create; create; open 0; open 1; append 0 5 1; append 1 9 2; append 1 9 2")
            .due("count 2", 38).due("crash", 23).due("count 2", 38).due("total 1", 0).due("total 2", 0)
            .due("file 0 4", 1).due("file 1 4", 1).due("remove 0", 6).due("count 2", 44);
    }

    private static void mendWithoutFiles() {
        run("To mend the disk: without files").due("mend", 0).due("count 9", 1).due("count 2", 64).due("undo", 0);
        run("To mend the disk: without lent blocks").made("create; create; open 0; append 0 3 1; close 0")
            .due("mend", 0).due("file 0 0", 3).due("file 0 3", 0).due("total 1", 1);
    }

    private static void mendOfEight() {
        Run run = Layouts.eight(CHECK, "all closed files give back their lent blocks");
        run.again("no file is closed").due("mend", 0).due("count 4", 8).due("total 1", 0);
        run.made("sync 0; sync 7; crash; open 3; open 4").due("mend", 10).due("count 4", 4).due("count 5", 0);
        run.due("total 1", 10).due("total 2", 0).due("count 3", 2).due("file 3 1", 2).due("file 4 1", 2);
        run.due("file 0 1", 0).due("file 7 1", 0).due("file 6 4", 0).due("mend", 0).due("total 1", 10);
    }

    private static void mendOfClosedFilesAlone() {
        run("open files do not give back").made("create; create; open 0; open 1; append 0 3 1; append 1 3 1; append 1 3 1")
            .due("mend", 0).due("file 0 1", 1).due("file 1 1", 2).due("file 0 5", 2)
            .made("crash; open 1").due("mend", 4).due("file 1 1", 8).due("file 1 3", 1).due("file 0 1", 0);
    }

    private static void mendOfAll() {
        run("Returns the number of blocks that are given back: 64").made("create; open 0; append 0 64 1; crash")
            .due("mend", 64).due("count 2", 64).due("total 1", 64).due("file 0 4", 0).due("count 0", 1)
            .due("mend", 0).due("total 1", 64);
        run("Returns the number of blocks that are given back: 1").made("create; open 0; append 0 63 1; sync 0; crash")
            .due("mend", 1).due("run 0 0", 63).due("file 0 0", 63).due("file 0 2", 63).due("total 1", 1);
    }

    private static void givenBackBlocksAreFree() {
        String[] ways = {"close 0", "cut 0 3", "crash; mend", "create; open 1; append 1 60 9; undo; cut 0 3"};
        for (String way : ways) {
            run("these blocks are free then, and no longer belong to the sequence of the file: " + way)
                .made("create; open 0; append 0 3 1; sync 0").due("block 3 0", 0).made(way)
                .due("block 3 0", NONE).due("block 3 1", 0).due("block 3 2", NONE).due("extent 0 0 1", 3)
                .due("run 0 0", 3).due("file 0 1", 0).due("file 0 5", 1).due("file 0 0", 3).due("block 2 0", 0);
        }
        run("these blocks are free then: in the step 2").made("create; create; open 0; open 1; append 0 3 1; append 1 61 9")
            .due("block 3 0", 1).due("extent 0 0 1", 3).due("file 0 1", 0).due("file 0 5", 1).due("file 0 3", 1)
            .due("file 0 0", 3).due("file 0 2", 0).due("total 1", 1).due("total 2", 1).due("count 2", 0);
    }
}
