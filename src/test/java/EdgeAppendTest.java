/** The edges of appending: the six steps of the terms, and promise 7. */
final class EdgeAppendTest {
    private static final Check CHECK = new Check("EdgeAppendTest");
    private static final int NONE = LendingDisk.NONE;
    /** Of 64 blocks, the files 0, 2, 4 and 6 are removed; all else belongs to the others. */
    private static final int[] SHORT_FIRST = {3, 1, 5, 1, 3, 1, 5, 45};
    private static final int[] LONG_FIRST = {5, 1, 3, 1, 5, 1, 3, 45};

    private static Run run(String sentence) {
        return new Run(CHECK, sentence);
    }

    public static void main(String[] args) {
        blocksAndStamps();
        needNotAboveZero();
        needNotAboveZeroOnAFullDisk();
        asManyAsNeedAreFree();
        severalGiveBack();
        ofSeveralTheLowest();
        notTheFileItself();
        closedFilesGiveBack();
        tooFewBlocks();
        lesserOfLendAndMost();
        atMostTheFreeBlocks();
        freeBlocksAfterTakingBack();
        directlyBehindTheLast();
        behindTheLastFirst();
        behindTheLastOfTheSequence();
        nothingIsBehind63();
        withoutBlocksARunIsChosen();
        shortestWithAtLeastM();
        lowestWithAtLeastM();
        longestIfNoneHasM();
        mIsWhatIsStillToBeAdded();
        askIsToBeAddedNotNeed();
        theWholeDisk();
        lendBecomesTwiceAsGreat();
        firstLentBlocksHoldData();
        CHECK.end();
    }

    private static void blocksAndStamps() {
        run("blocks: 1 to 64").made("create; open 0")
            .dueUnchanged("append 0 min 5", -2).dueUnchanged("append 0 -1 5", -2).dueUnchanged("append 0 0 5", -2)
            .dueUnchanged("append 0 65 5", -2).dueUnchanged("append 0 max 5", -2)
            .due("append 0 1 5", 1).due("append 0 63 5", 1).due("file 0 0", 64).due("total 0", 64);
        run("blocks: 1 to 64, all at once").made("create; open 0").due("append 0 64 5", 1)
            .due("file 0 0", 64).due("file 0 1", 0).due("file 0 5", 1).due("count 2", 0).due("total 0", 64);
        run("blocks: 1 to 64, all but one").made("create; open 0").due("append 0 63 5", 1)
            .due("file 0 0", 63).due("file 0 1", 1).due("file 0 5", 2).due("count 2", 0).due("total 0", 63);
        run("stamp: the least and the greatest, and those beside").made("create; open 0")
            .due("append 0 1 0", 1).dueUnchanged("append 0 1 -1", -2).dueUnchanged("append 0 1 100", -2)
            .due("append 0 1 99", 1).due("read 0 0 64 0", 99);
    }

    /** Size 6, lent 4, lend 8; ten blocks from 0 on. */
    private static Run withFourLent(String sentence) {
        return run(sentence).made("set 0 16; create; open 0; append 0 1 1; append 0 2 2; append 0 3 3");
    }

    private static void needNotAboveZero() {
        withFourLent("need is below 0: only the step 6").due("append 0 3 9", 1)
            .due("file 0 0", 9).due("file 0 1", 1).due("file 0 5", 8).due("count 2", 54);
        withFourLent("need is 0: only the step 6").due("append 0 4 9", 1)
            .due("file 0 0", 10).due("file 0 1", 0).due("file 0 5", 8).due("count 2", 54);
        withFourLent("need is above 0: the steps 2 to 5").due("append 0 5 9", 1)
            .due("file 0 0", 11).due("file 0 1", 8).due("file 0 5", 16).due("count 2", 45);
    }

    /** File 0 has the size 3 and 2 lent blocks, file 1 the size 58 and one lent, 63; no block is free. */
    private static Run full(String sentence) {
        return run(sentence).made("set 0 16; create; create; open 0; open 1; append 0 1 1; append 0 2 2; append 1 58 5");
    }

    private static void needNotAboveZeroOnAFullDisk() {
        full("need is below 0: no file gives back").due("append 0 1 9", 1)
            .due("file 0 1", 1).due("file 1 1", 1).due("total 2", 0).due("file 0 5", 4);
        full("need is 0: no file gives back").due("append 0 2 9", 1).due("count 2", 0)
            .due("file 0 1", 0).due("file 1 1", 1).due("total 1", 0).due("total 2", 0).due("file 0 5", 4);
        full("need is 1: a file gives back").due("append 0 3 9", 2).due("count 2", 0)
            .due("file 0 0", 6).due("file 0 1", 0).due("file 0 5", 4).due("file 1 1", 0).due("file 1 5", 1)
            .due("total 1", 1).due("total 2", 1).due("extent 0 1 0", 63);
        full("need is more than there is").dueUnchanged("append 0 4 9", -4).dueUnchanged("append 0 64 9", -4)
            .due("room 0", 3).due("room 1", 3);
    }

    /** After appending to file 0: its lent blocks, then the lent blocks of 1 to 3, the free ones, totals 1 and 2. */
    private static void lendersAfter(int blocks, int... want) {
        Run run = Layouts.lenders(CHECK, "As long as fewer than need blocks are free, need " + blocks);
        run.made("append 0 " + blocks + " 9");
        for (int file = 0; file < 4; file++) {
            run.due("file " + file + " 1", want[file]);
        }
        run.due("count 2", want[4]).due("total 1", want[5]).due("total 2", want[6]);
        int[] lends = {want[0] > 0 ? 2 : 1, want[1] > 0 ? 2 : 1, want[2] > 0 ? 4 : 1, want[3] > 0 ? 8 : 1};
        for (int file = 0; file < 4; file++) {
            run.due("file " + file + " 5", lends[file]);
        }
        run.due("file 0 0", blocks).due("file 1 0", 1).due("file 2 0", 3).due("file 3 0", 6);
    }

    private static void asManyAsNeedAreFree() {
        lendersAfter(46, 1, 1, 2, 4, 0, 0, 0);
        lendersAfter(47, 0, 1, 2, 4, 0, 0, 0);
        lendersAfter(48, 1, 1, 2, 0, 2, 4, 1);
    }

    private static void severalGiveBack() {
        lendersAfter(50, 1, 1, 2, 0, 0, 4, 1);
        lendersAfter(51, 0, 1, 2, 0, 0, 4, 1);
        lendersAfter(52, 1, 1, 0, 0, 0, 6, 2);
        lendersAfter(53, 0, 1, 0, 0, 0, 6, 2);
        lendersAfter(54, 0, 0, 0, 0, 0, 7, 3);
        Layouts.lenders(CHECK, "too few blocks even so").dueUnchanged("append 0 55 9", -4)
            .dueUnchanged("append 0 64 9", -4).due("room 0", 54).due("append 0 54 9", 3).due("room 0", 0)
            .due("extent 0 0 0", 13).due("extent 0 1 0", 5).due("extent 0 2 0", 1);
    }

    /** Four open files: the one without blocks is appended to, the others have the size 3 and 2 lent; 49 are free. */
    private static Run equals(int appended) {
        Run run = run("of several the one with the lowest number, appended to " + appended).made("set 0 16");
        for (int file = 0; file < 4; file++) {
            run.made("create; open " + file);
        }
        for (int file = 0; file < 4; file++) {
            if (file != appended) {
                run.made("append " + file + " 1 1; append " + file + " 2 1");
            }
        }
        return run;
    }

    private static void ofSeveralTheLowest() {
        for (int appended = 0; appended < 4; appended++) {
            int first = appended == 0 ? 1 : 0;
            int second = appended <= 1 ? 2 : 1;
            int third = appended == 3 ? 2 : 3;
            equals(appended).due("count 2", 49).made("append " + appended + " 50 9").due("total 2", 1)
                .due("file " + first + " 1", 0).due("file " + first + " 5", 1)
                .due("file " + second + " 1", 2).due("file " + third + " 1", 2).due("file " + third + " 5", 4);
            equals(appended).made("append " + appended + " 52 9").due("total 2", 2)
                .due("file " + first + " 1", 0).due("file " + second + " 1", 0).due("file " + third + " 1", 2);
            equals(appended).made("append " + appended + " 54 9").due("total 2", 3).due("count 4", 1);
        }
        Run run = run("the one with the most lent blocks is the file 7");
        run.made("create; create; create; create; create; create; create; create; open 0; open 6; open 7");
        run.made("append 0 1 1; append 6 1 1; append 7 1 1; append 7 2 1").due("count 2", 55);
        run.made("append 0 57 2").due("file 7 1", 0).due("file 6 1", 1).due("total 2", 1).due("total 1", 2);
    }

    private static void notTheFileItself() {
        Run run = run("of the other files: not the file that is appended to");
        run.made("set 0 16; create; create; open 0; open 1; append 0 1 1; append 0 2 2; append 0 3 3; append 1 1 4");
        // lent 4 and 1, free 52
        run.again("of the other files: need is 52").made("append 0 56 9").due("total 2", 0).due("file 1 1", 1);
        run.again("of the other files: too few").dueUnchanged("append 0 58 9", -4).due("room 0", 57);
        run.made("append 0 57 9").due("file 0 0", 63).due("file 0 1", 0).due("file 0 5", 8).due("file 1 1", 0)
            .due("total 1", 1).due("total 2", 1);
        run("without any other file").made("create; open 0; append 0 60 1").dueUnchanged("append 0 5 9", -4)
            .due("append 0 4 9", 1).due("total 2", 0).dueUnchanged("append 0 1 9", -4);
    }

    private static void closedFilesGiveBack() {
        Run run = run("closed files have lent blocks, too").made("create; create; open 0; append 0 5 1; crash; open 1");
        run.again("closed files keep them as long as enough are free").made("append 1 58 2")
            .due("file 0 1", 6).due("total 2", 0).due("extent 1 0 0", 6);
        run.made("append 1 59 2").due("file 0 1", 0).due("file 0 0", 0).due("file 0 4", 0).due("file 0 3", 0);
        run.due("total 1", 6).due("total 2", 1).due("extent 1 0 0", 0).due("extent 1 0 1", 60).due("count 2", 4);
        run("a file with data and lent blocks that is closed")
            .made("create; create; open 0; append 0 5 1; sync 0; append 0 4 1; crash; open 1; append 1 59 2")
            .due("file 0 0", 5).due("file 0 1", 0).due("file 0 2", 5).due("extent 1 0 0", 5).due("count 2", 0);
        run("a file that is no more does not give back")
            .made("create; create; open 0; append 0 5 1; crash; remove 0; open 1; append 1 64 2")
            .due("total 1", 0).due("total 2", 0);
    }

    private static void tooFewBlocks() {
        Layouts.eight(CHECK, "If there are too few blocks even so, appending is not possible, and nothing changes.")
            .due("count 2", 48).due("room 3", 56).dueUnchanged("append 3 57 9", -4).dueUnchanged("append 3 64 9", -4)
            .made("append 3 56 9").due("count 2", 0).due("count 4", 0).due("total 1", 7).due("total 2", 7)
            .dueUnchanged("append 3 1 9", -4).dueUnchanged("append 0 1 9", -4);
        run("files without lent blocks do not give back").made("set 0 0; create; create; open 0; open 1; append 0 60 1")
            .dueUnchanged("append 1 5 9", -4).due("append 1 4 9", 1).due("total 2", 0);
    }

    private static void lesserOfLendAndMost() {
        int[] mosts = {0, 1, 3, 4, 5, 15, 16};
        int[] lent = {0, 1, 3, 4, 4, 4, 4};
        for (int i = 0; i < mosts.length; i++) {
            run("the lesser one of the lend of the file and MOST, lend 4 and MOST " + mosts[i])
                .made("set 0 16; create; open 0; append 0 1 1; append 0 2 1").due("file 0 5", 4)
                .made("set 0 " + mosts[i] + "; append 0 3 1").due("file 0 1", lent[i])
                .due("file 0 5", mosts[i] == 0 ? 4 : 8).due("count 2", 58 - lent[i]);
        }
        run("the lesser one of the lend of the file and MOST: lend 16 and MOST 16")
            .made("set 0 16; create; open 0; append 0 1 1; append 0 2 1; append 0 3 1; append 0 5 1")
            .due("file 0 1", 8).due("file 0 5", 16).made("append 0 9 1").due("file 0 1", 16).due("file 0 5", 16);
        run("the lesser one of the lend of the file and MOST: lend 16 and MOST 15")
            .made("set 0 16; create; open 0; append 0 1 1; append 0 2 1; append 0 3 1; append 0 5 1; set 0 15")
            .made("append 0 9 1").due("file 0 1", 15).due("file 0 5", 16);
    }

    private static void atMostTheFreeBlocks() {
        int[] free = {1, 2, 3, 4, 5, 6, 7};
        int[] lent = {0, 1, 2, 3, 4, 4, 4};
        for (int i = 0; i < free.length; i++) {
            run("but at most the number of free blocks, free " + free[i])
                .made("set 0 16; create; create; open 0; open 1; append 0 1 1; append 0 2 1; set 0 0")
                .made("append 1 " + (59 - free[i]) + " 1; set 0 16").due("count 2", free[i])
                .made("append 0 3 1").due("file 0 1", lent[i]).due("file 0 5", lent[i] == 0 ? 4 : 8)
                .due("count 2", free[i] - 1 - lent[i]);
        }
        run("but at most the number of free blocks: none is free")
            .made("set 0 16; create; create; open 0; open 1; append 0 1 1; append 0 2 1; set 0 0; append 1 59 1")
            .dueUnchanged("append 0 3 1", -4).due("append 0 2 1", 1).due("file 0 5", 4);
    }

    private static void freeBlocksAfterTakingBack() {
        run("the number of free blocks: those that were given back, too")
            .made("set 0 16; create; create; open 0; open 1; append 1 1 1; append 1 2 1; append 1 3 1; append 1 5 1")
            // size 11 and 8 lent; 45 are free
            .due("file 1 1", 8).due("count 2", 45).made("append 0 46 2").due("file 0 1", 1).due("file 0 5", 2)
            .due("count 2", 6).due("total 1", 8).due("extent 0 0 0", 11).due("extent 0 0 1", 47);
    }

    private static void directlyBehindTheLast() {
        int[] blocks = {4, 5, 6};
        int[] extents = {1, 1, 2};
        for (int i = 0; i < blocks.length; i++) {
            Layouts.holes(CHECK, "the blocks from there on are added: five are free there", 0, new int[] {3, 5, 1}, 1)
                .made("open 0").due("append 0 " + blocks[i] + " 9", extents[i])
                .due("extent 0 0 1", 3 + Math.min(blocks[i], 5)).due("extent 0 1 0", i == 2 ? 9 : NONE)
                .due("block 7 0", i == 0 ? NONE : 0).due("count 2", 60 - blocks[i]);
        }
        Layouts.holes(CHECK, "the block directly behind is not free", 0, new int[] {3, 1, 5}, 2)
            .made("open 0").due("append 0 2 9", 2).due("extent 0 1 0", 4).due("extent 0 1 1", 2);
        run("behind lent blocks").made("set 0 1; create; create; open 0; open 1; append 0 3 1; append 1 2 1; close 1; remove 1")
            .due("append 0 4 2", 1).due("file 0 1", 1).due("extent 0 0 1", 8);
    }

    private static void behindTheLastFirst() {
        Layouts.holes(CHECK, "First the block directly behind, though another run fits better", 0,
            new int[] {3, 5, 1, 2, 1}, 1, 3).made("open 0").due("append 0 2 9", 1).due("extent 0 0 1", 5)
            .due("run 0 0", 5).due("run 1 0", 9);
        Layouts.holes(CHECK, "First the block directly behind, though a run holds all", 0,
            new int[] {3, 1, 1, 2, 1}, 1, 3).made("open 0").due("append 0 2 9", 2).due("block 3 0", 0)
            .due("extent 0 1 0", 5).due("run 0 0", 6);
        Layouts.holes(CHECK, "First the block directly behind, though a lower run holds all", 1,
            new int[] {5, 3, 1, 1}, 0, 2).made("open 1").due("append 1 2 9", 2).due("extent 1 0 1", 4)
            .due("extent 1 1 0", 0);
    }

    private static void behindTheLastOfTheSequence() {
        Layouts.holes(CHECK, "the last one of its sequence is not its highest", 0, new int[] {3, 1, 1, 1, 58}, 0)
            .made("open 2").due("append 2 1 9", 2).due("extent 2 1 0", 0).made("remove 3")
            // free: 1 and 2, 5; the sequence of file 2 is 4, 0
            .due("append 2 1 9", 2).due("block 1 2", 2).due("block 5 0", NONE)
            .due("append 2 2 9", 3).due("block 2 2", 3).due("block 5 2", 4);
    }

    private static void nothingIsBehind63() {
        int[] sizes = {3, 1, 2, 1, 57};
        Layouts.holes(CHECK, "nothing is behind the block 63: shortest", 0, sizes, 0, 2).made("open 4")
            .due("append 4 2 9", 2).due("extent 4 1 0", 4).due("block 0 0", NONE);
        Layouts.holes(CHECK, "nothing is behind the block 63: lowest", 1, sizes, 0, 2).made("open 4")
            .due("append 4 2 9", 2).due("extent 4 1 0", 0).due("block 4 0", NONE);
        Layouts.holes(CHECK, "nothing is behind the block 63: all", 0, sizes, 0, 2).made("open 4")
            .dueUnchanged("append 4 6 9", -4).due("append 4 5 9", 3).due("extent 4 1 0", 0).due("extent 4 2 0", 4);
        Layouts.holes(CHECK, "the block 63 is the last behind", 0, new int[] {1, 61}, 0).made("open 1")
            .due("append 1 2 9", 1).due("block 63 2", 62).due("append 1 1 9", 2).due("block 0 2", 63)
            .dueUnchanged("append 1 1 9", -4);
    }

    private static void withoutBlocksARunIsChosen() {
        int[] sizes = {3, 1, 2, 1};
        Layouts.holes(CHECK, "if the file has blocks: a new one has none", 0, sizes, 0, 2).made("create; open 0")
            .due("append 0 2 9", 1).due("extent 0 0 0", 4);
        Layouts.holes(CHECK, "if the file has blocks: one that is cut to 0 has none", 0, sizes, 0, 2).made("open 3; cut 3 0")
            // free: 0 to 2, and 4 to the end
            .due("append 3 2 9", 1).due("extent 3 0 0", 0);
        Layouts.holes(CHECK, "if the file has blocks: it has one", 0, new int[] {1, 2, 1, 1, 1}, 1, 3).made("open 0")
            .due("append 0 1 9", 1).due("extent 0 0 1", 2).due("block 4 0", NONE);
        Layouts.holes(CHECK, "if the file has blocks: lent ones are blocks", 0, new int[] {2, 2, 1, 1, 1}, 0)
            // lent are 0 and 1; free then: 2 and 3, 5, and 7 to the end
            .made("create; open 0; append 0 2 3; crash; remove 1; remove 3; open 0").due("append 0 3 9", 1)
            .due("extent 0 0 1", 3).due("block 5 0", NONE);
    }

    /** Appends to a new file: the answer, and the first blocks of its extents. */
    private static void chosen(int policy, int[] sizes, int blocks, int... firsts) {
        String sentence = "the free run is chosen, policy " + policy + ", blocks " + blocks;
        Run run = Layouts.holes(CHECK, sentence, policy, sizes, 0, 2, 4, 6).made("create; open 0");
        run.due("append 0 " + blocks + " 9", firsts.length);
        for (int extent = 0; extent < firsts.length; extent++) {
            run.due("extent 0 " + extent + " 0", firsts[extent]);
        }
        run.due("extent 0 " + firsts.length + " 0", NONE).due("count 2", 16 - blocks).due("file 0 0", blocks);
    }

    private static void shortestWithAtLeastM() {
        chosen(0, SHORT_FIRST, 1, 0);
        chosen(0, SHORT_FIRST, 3, 0);
        chosen(0, SHORT_FIRST, 4, 4);
        chosen(0, SHORT_FIRST, 5, 4);
        chosen(0, LONG_FIRST, 1, 6);
        chosen(0, LONG_FIRST, 3, 6);
        chosen(0, LONG_FIRST, 4, 0);
        chosen(0, LONG_FIRST, 5, 0);
    }

    private static void lowestWithAtLeastM() {
        chosen(1, SHORT_FIRST, 1, 0);
        chosen(1, SHORT_FIRST, 3, 0);
        chosen(1, SHORT_FIRST, 4, 4);
        chosen(1, SHORT_FIRST, 5, 4);
        chosen(1, LONG_FIRST, 1, 0);
        chosen(1, LONG_FIRST, 3, 0);
        chosen(1, LONG_FIRST, 4, 0);
        chosen(1, LONG_FIRST, 5, 0);
    }

    private static void longestIfNoneHasM() {
        for (int policy = 0; policy < 2; policy++) {
            chosen(policy, SHORT_FIRST, 6, 4, 0);
            chosen(policy, SHORT_FIRST, 8, 4, 0);
            chosen(policy, SHORT_FIRST, 9, 4, 14);
            chosen(policy, SHORT_FIRST, 10, 4, 14);
            chosen(policy, SHORT_FIRST, 11, 4, 14, 0);
            chosen(policy, SHORT_FIRST, 14, 4, 14, 0, 10);
            chosen(policy, SHORT_FIRST, 16, 4, 14, 0, 10);
            chosen(policy, LONG_FIRST, 6, 0, 6);
            chosen(policy, LONG_FIRST, 9, 0, 10);
            chosen(policy, LONG_FIRST, 11, 0, 10, 6);
            chosen(policy, LONG_FIRST, 16, 0, 10, 6, 16);
            Layouts.holes(CHECK, "one more than all", policy, SHORT_FIRST, 0, 2, 4, 6).made("create; open 0")
                .dueUnchanged("append 0 17 9", -4).due("room 0", 16);
        }
    }

    private static void mIsWhatIsStillToBeAdded() {
        int[] sizes = {3, 5, 1, 4, 1, 2, 1};
        // behind file 0: 3 to 7; free too: 9 to 12, 14 and 15, 17 to 63
        int[][] seconds = {{14, 14, 9, 9, 17}, {9, 9, 9, 9, 17}};
        for (int policy = 0; policy < 2; policy++) {
            for (int rest = 1; rest <= 5; rest++) {
                Layouts.holes(CHECK, "Let m be the number of blocks that are still to be added: " + rest, policy,
                    sizes, 1, 3, 5).made("open 0").due("append 0 " + (5 + rest) + " 9", 2)
                    .due("extent 0 0 1", 8).due("extent 0 1 0", seconds[policy][rest - 1]).due("extent 0 1 1", rest);
            }
        }
    }

    private static void askIsToBeAddedNotNeed() {
        for (int policy = 0; policy < 2; policy++) {
            Layouts.holes(CHECK, "until ask blocks have been added: lent ones, too", policy, LONG_FIRST, 0, 2, 4, 6)
                .made("set 0 1; create; open 0").due("append 0 3 9", 1).due("extent 0 0 0", 0).due("extent 0 0 1", 4)
                .due("file 0 1", 1);
            Layouts.holes(CHECK, "until ask blocks have been added: a lent one apart", policy, SHORT_FIRST, 0, 2, 4, 6)
                .made("set 0 1; create; open 0").due("append 0 5 9", 2).due("extent 0 0 0", 4).due("extent 0 0 1", 5)
                .due("extent 0 1 0", 0).due("extent 0 1 1", 1).due("block 0 1", 2);
        }
    }

    private static void theWholeDisk() {
        for (int policy = 0; policy < 2; policy++) {
            run("a free run of all blocks").made("set 1 " + policy + "; create; open 0").due("append 0 64 1", 1)
                .due("block 0 2", 0).due("block 63 2", 63).due("run 0 0", NONE);
            Run run = Layouts.everySecond(CHECK, "32 free runs of one block").made("set 1 " + policy);
            run.dueUnchanged("append 1 33 9", -4).due("append 1 32 9", 64).due("count 2", 0);
            for (int block = 0; block < 64; block += 2) {
                run.due("block " + block + " 2", 32 + block / 2);
            }
        }
    }

    private static void lendBecomesTwiceAsGreat() {
        run("If ask is greater than need, the lend of the file becomes twice as great")
            .made("set 0 1; create; open 0; append 0 1 1").due("file 0 5", 2).made("append 0 2 1").due("file 0 5", 4)
            .made("append 0 2 1").due("file 0 5", 8).made("append 0 2 1").due("file 0 5", 16)
            .made("append 0 2 1").due("file 0 5", 16).due("file 0 1", 1);
        run("If ask is not greater than need, the lend stays").made("set 0 0; create; open 0; append 0 1 1")
            .due("file 0 5", 1).made("append 0 62 1").due("file 0 5", 1).made("append 0 1 1").due("file 0 5", 1);
        run("the lend of the file alone").made("create; create; open 0; open 1; append 0 1 1")
            .due("file 0 5", 2).due("file 1 5", 1);
    }

    private static void firstLentBlocksHoldData() {
        Run run = withFourLent("The first n lent blocks of the file hold data then").made("append 0 2 77");
        run.due("block 5 3", 3).due("block 6 3", 77).due("block 7 3", 77).due("block 8 3", 0).due("block 9 3", 0);
        run.due("block 7 1", 1).due("block 8 1", 2).due("file 0 0", 8).due("file 0 1", 2).due("total 0", 8);
        run = withFourLent("those that were lent before first, then those that were added").made("append 0 5 77");
        run.due("block 6 3", 77).due("block 10 3", 77).due("block 11 3", 0).due("block 11 1", 2).due("total 0", 11);
        run = run("they are written over what was lost by a crash").made("create; open 0; append 0 3 50; crash; open 0");
        run.due("append 0 1 60", 1).due("block 0 3", 60).due("block 1 3", 50).due("block 1 1", 2).due("file 0 1", 3);
        run.due("append 0 3 61", 1).due("block 1 3", 61).due("block 3 3", 61).due("file 0 1", 0).due("file 0 5", 1);
    }
}
