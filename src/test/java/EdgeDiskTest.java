/** The edges of the disk: "The disk" and "Settings" of the terms, and promises 1, 11, 19, 22. */
final class EdgeDiskTest {
    private static final Check CHECK = new Check("EdgeDiskTest");
    private static final int NONE = LendingDisk.NONE;

    private static Run run(String sentence) {
        return new Run(CHECK, sentence);
    }

    public static void main(String[] args) {
        newObject();
        blocks();
        freeOrOfAFile();
        stampsAtFirst();
        leastAndGreatestStamp();
        stampsStayWhileFree();
        stampsStayWhileLent();
        everyBlockOrNoneIsARun();
        runsAtTheEnds();
        runsAreLargest();
        runsAreNumberedByFirstBlocks();
        mostRuns();
        most();
        mostAtFirst();
        policy();
        policyAtFirst();
        settingsAreOfTheState();
        theLastCall();
        CHECK.end();
    }

    private static void newObject() {
        Run run = run("Creates a disk without files, with an empty text and an empty history, without a snapshot.");
        run.dueUnchanged("undo", NONE).dueUnchanged("restore", -4).dueUnchanged("fault", 0);
        run.dueUnchanged("perform", -100).dueUnchanged("clearText", 0);
        for (int file = 0; file < 8; file++) {
            run.dueUnchanged("file " + file + " 0", -1);
        }
        int[] counts = {0, 0, 64, 0, 0, 0, 1, 64, 0, 0, 0};
        for (int what = 0; what < counts.length; what++) {
            run.dueUnchanged("count " + what, counts[what]);
        }
        run.dueFrom(0, 3, "total #", 0).due("wholeness", 1.0).due("save", 64);
    }

    private static void blocks() {
        run("The disk has 64 blocks, 0 to 63.")
            .dueUnchanged("block min 0", -1).dueUnchanged("block -1 0", -1).dueUnchanged("block 0 0", NONE)
            .dueUnchanged("block 63 0", NONE).dueUnchanged("block 64 0", -1).dueUnchanged("block max 0", -1)
            .made("create; open 0").dueUnchanged("room 0", 64).due("append 0 64 1", 1)
            .due("block 0 2", 0).due("block 63 2", 63).due("extent 0 0 0", 0).due("extent 0 0 1", 64);
    }

    private static void freeOrOfAFile() {
        Run run = run("A block is free, or it belongs to a file.");
        run.dueFrom(0, 63, "block # 0", NONE).dueFrom(0, 63, "block # 1", 0).dueFrom(0, 63, "block # 2", NONE);
        run.made("create; create; open 1; append 1 64 5");
        run.dueFrom(0, 63, "block # 0", 1).dueFrom(0, 63, "block # 1", 1);
        run = run("A block is free, or it belongs to a file: all blocks lent").made("create; open 0; append 0 64 5; crash");
        run.dueFrom(0, 63, "block # 0", 0).dueFrom(0, 63, "block # 1", 2);
        for (int block = 0; block < 64; block++) {
            run.due("block " + block + " 2", block);
        }
        run.due("count 2", 0).due("mend", 64).due("count 2", 64).dueFrom(0, 63, "block # 2", NONE);
    }

    private static void stampsAtFirst() {
        run("Each block has a stamp (0 at first)").dueFrom(0, 63, "block # 3", 0)
            .made("create; open 0; append 0 1 7").due("block 0 3", 7)
            .due("block 1 1", 2).due("block 1 3", 0).dueFrom(2, 63, "block # 3", 0);
    }

    private static void leastAndGreatestStamp() {
        run("stamp 0 to 99").made("create; open 0")
            .dueUnchanged("append 0 1 -1", -2).dueUnchanged("append 0 1 100", -2)
            .dueUnchanged("append 0 1 min", -2).dueUnchanged("append 0 1 max", -2)
            .due("append 0 1 99", 1).due("append 0 1 98", 1).due("append 0 1 1", 1).due("append 0 1 0", 1)
            .due("block 0 3", 99).due("block 1 3", 98).due("block 2 3", 1).due("block 3 3", 0)
            .due("read 0 0 64 0", 198);
    }

    private static void stampsStayWhileFree() {
        run("stays until the block is written again, also while the block is free")
            .made("create; open 0; append 0 64 99").due("cut 0 0", 64)
            .dueFrom(0, 63, "block # 1", 0).dueFrom(0, 63, "block # 3", 99)
            .due("append 0 1 0", 1).due("block 0 3", 0).dueFrom(1, 63, "block # 3", 99)
            .due("close 0", 1).due("block 1 3", 99).due("remove 0", 1).due("block 0 3", 0).due("block 63 3", 99);
        run("a new file's blocks keep their stamps until they are written")
            .made("create; open 0; append 0 3 42; close 0; remove 0; create; open 0; append 0 1 8")
            .due("block 0 3", 8).due("block 1 1", 2).due("block 1 3", 42).due("block 2 3", 42);
    }

    private static void stampsStayWhileLent() {
        run("stays until the block is written again: lent by a crash, and given back by mend")
            .made("create; open 0; append 0 4 31; crash").due("block 3 1", 2).due("block 3 3", 31)
            .made("mend").due("block 3 1", 0).due("block 3 3", 31).due("block 0 3", 31);
        run("stays until the block is written again: given back in the step 2 of appending")
            .made("create; create; open 0; append 0 4 31; crash; open 1").due("append 1 62 9", 1)
            .dueFrom(0, 61, "block # 3", 9).due("block 62 3", 0);
    }

    private static void everyBlockOrNoneIsARun() {
        run("A free run is a largest sequence of consecutive free blocks: all of them")
            .dueUnchanged("run 0 0", 0).dueUnchanged("run 0 1", 64)
            .dueUnchanged("run 1 0", NONE).dueUnchanged("run 1 1", NONE).due("count 6", 1).due("count 7", 64);
        run("A free run is a largest sequence of consecutive free blocks: none of them")
            .made("create; open 0; append 0 64 1")
            .dueUnchanged("run 0 0", NONE).dueUnchanged("run 0 1", NONE).due("count 6", 0).due("count 7", 0);
        run("lent blocks are not free").made("create; open 0; append 0 64 1; crash")
            .due("run 0 0", NONE).due("count 6", 0).due("count 7", 0);
    }

    private static void runsAtTheEnds() {
        Layouts.holes(CHECK, "a free run of the first block alone", 0, new int[] {1, 63}, 0)
            .due("run 0 0", 0).due("run 0 1", 1).due("run 1 0", NONE).due("count 6", 1).due("count 7", 1);
        Layouts.holes(CHECK, "a free run of the last block alone", 0, new int[] {63})
            .due("run 0 0", 63).due("run 0 1", 1).due("run 1 0", NONE).due("count 6", 1).due("count 7", 1);
        Layouts.holes(CHECK, "the last block is not followed by the first one", 0, new int[] {2, 61}, 0)
            .due("run 0 0", 0).due("run 0 1", 2).due("run 1 0", 63).due("run 1 1", 1)
            .due("run 2 0", NONE).due("count 6", 2).due("count 7", 2);
        Layouts.holes(CHECK, "a free run of all but the ends", 0, new int[] {1, 62, 1}, 1)
            .due("run 0 0", 1).due("run 0 1", 62).due("run 1 1", NONE).due("count 6", 1).due("count 7", 62);
    }

    private static void runsAreLargest() {
        Layouts.holes(CHECK, "neighbours that become free are one run", 0, new int[] {2, 3, 4}, 0, 1)
            .due("run 0 0", 0).due("run 0 1", 5).due("run 1 0", 9).due("run 1 1", 55).due("count 6", 2);
        Layouts.holes(CHECK, "neighbours that become free are one run, the lower one last", 0, new int[] {2, 3, 4}, 1, 0)
            .due("run 0 0", 0).due("run 0 1", 5).due("run 1 0", 9).due("count 6", 2);
        Layouts.holes(CHECK, "a run grows to the end of the disk", 0, new int[] {2, 3, 4}, 2, 1)
            .due("run 0 0", 2).due("run 0 1", 62).due("run 1 0", NONE).due("count 6", 1).due("count 7", 62);
        Layouts.holes(CHECK, "one block parts two runs", 0, new int[] {2, 1, 4, 57}, 2, 0)
            .due("run 0 1", 2).due("run 1 0", 3).due("run 1 1", 4).due("run 2 0", NONE).due("count 7", 4);
    }

    private static void runsAreNumberedByFirstBlocks() {
        int[] firsts = {0, 5, 12, 18};
        int[] lengths = {4, 6, 5, 46};
        int[][] orders = {{0, 2, 4}, {4, 2, 0}, {2, 0, 4}};
        for (int[] order : orders) {
            Run run = Layouts.holes(CHECK, "free runs are numbered from 0, by their first blocks", 0,
                new int[] {4, 1, 6, 1, 5, 1}, order);
            for (int number = 0; number < 4; number++) {
                run.due("run " + number + " 0", firsts[number]).due("run " + number + " 1", lengths[number]);
            }
            run.due("run 4 0", NONE).due("run 4 1", NONE).due("run max 0", NONE).due("count 6", 4).due("count 7", 46);
        }
    }

    private static void mostRuns() {
        Run run = Layouts.everySecond(CHECK, "free runs are numbered from 0: the most there can be");
        for (int number = 0; number < 32; number++) {
            run.due("run " + number + " 0", 2 * number).due("run " + number + " 1", 1);
        }
        run.dueUnchanged("run 32 0", NONE).dueUnchanged("run 32 1", NONE);
        run.due("count 6", 32).due("count 7", 1).due("count 2", 32);
        run.due("append 1 1 5", 33).due("run 0 0", 2).due("run 31 0", NONE).due("count 6", 31);
    }

    private static void most() {
        run("There is a setting MOST (0 to 16; 8 at first)")
            .dueUnchanged("set 0 min", -2).dueUnchanged("set 0 -1", -2)
            .dueUnchanged("set 0 17", -2).dueUnchanged("set 0 max", -2)
            .due("set 0 0", 8).due("set 0 1", 0).due("set 0 15", 1).due("set 0 16", 15).due("set 0 16", 16)
            .dueUnchanged("set 0 17", -2).dueUnchanged("set 0 -1", -2).due("set 0 8", 16);
        Run run = run("each value of MOST").made("set 0 0");
        for (int value = 1; value <= 16; value++) {
            run.due("set 0 " + value, value - 1);
        }
        run.due("set 1 0", 0);
    }

    private static void mostAtFirst() {
        Run run = run("8 at first").made("create; open 0; append 0 1 1; append 0 2 1; append 0 3 1; append 0 5 1");
        // lends 1, 2, 4, 8
        run.due("file 0 5", 16).due("file 0 1", 8).due("append 0 9 1", 1).due("file 0 1", 8).due("set 0 8", 8);
    }

    private static void policy() {
        run("a setting POLICY (0 or 1; 0 at first)")
            .dueUnchanged("set 1 min", -2).dueUnchanged("set 1 -1", -2)
            .dueUnchanged("set 1 2", -2).dueUnchanged("set 1 16", -2).dueUnchanged("set 1 max", -2)
            .due("set 1 1", 0).due("set 1 1", 1).dueUnchanged("set 1 2", -2).dueUnchanged("set 1 -1", -2)
            .due("set 1 0", 1).due("set 1 0", 0).due("set 0 8", 8);
    }

    private static void policyAtFirst() {
        Run run = run("0 at first").made("set 0 0; create; create; create; create; open 0; open 1; open 2; open 3");
        run.made("append 0 5 1; append 1 1 1; append 2 3 1; append 3 1 1; cut 0 0; cut 2 0; append 2 3 2");
        // free before: 0 to 4 and 6 to 8
        run.due("extent 2 0 0", 6);
    }

    private static void settingsAreOfTheState() {
        run("Returns the previous value").made("set 0 3; set 1 1; save; set 0 4; set 1 0")
            .due("undo", 3).due("set 1 1", 1).due("undo", 3).due("undo", 2).due("set 0 5", 3)
            .made("set 0 9; set 1 0; restore").due("set 0 3", 3).due("set 1 1", 1);
    }

    private static void theLastCall() {
        Run run = run("An object is used for at most 512 calls").made("create; open 0");
        for (int turn = 0; turn < 254; turn++) {
            run.due("append 0 1 " + turn % 100, 1).due("cut 0 0", 2);
        }
        run.due("total 0", 254).due("undo", 4);
        run = run("An object is used for at most 512 calls: all of them recorded");
        for (int turn = 0; turn < 511; turn++) {
            run.due("set 1 " + turn % 2, turn == 0 ? 0 : 1 - turn % 2);
        }
        run.due("count 9", 5);
    }
}
