/** Disks that several tests begin with. */
final class Layouts {
    private Layouts() {
    }

    /**
     * Closed files of these sizes, one behind the other from block 0 on, without lent blocks; the ones
     * to be removed are removed in their order. MOST is 0 then. The stamps of file f are f + 1.
     */
    static Run holes(Check check, String sentence, int policy, int[] sizes, int... removed) {
        Run run = new Run(check, sentence).made("set 0 0; set 1 " + policy);
        for (int file = 0; file < sizes.length; file++) {
            run.made("create; open " + file);
            run.made("append " + file + " " + sizes[file] + " " + (file + 1));
            run.made("close " + file);
        }
        for (int file : removed) {
            run.made("remove " + file);
        }
        return run;
    }

    /** File 1 has the blocks 1, 3, 5 to 63 and is open, the others are free; MOST is 0. */
    static Run everySecond(Check check, String sentence) {
        Run run = new Run(check, sentence).made("set 0 0; create; create; open 0; open 1");
        for (int pair = 0; pair < 32; pair++) {
            run.made("append 0 1 1; append 1 1 2");
        }
        return run.made("close 0; remove 0");
    }

    /** The sequence of file 1 is 1, 3, 5 to 63 and then 0, 2, 4 to 62: 64 extents. */
    static Run allApart(Check check, String sentence) {
        Run run = everySecond(check, sentence);
        for (int block = 0; block < 32; block++) {
            run.made("append 1 1 3");
        }
        return run;
    }

    /**
     * The files 0 to 3 are open. File 0 has no blocks; the files 1, 2 and 3 have the sizes 1, 3 and 6
     * and 1, 2 and 4 lent blocks, with the lends 2, 4 and 8; 47 blocks are free. MOST is 16.
     */
    static Run lenders(Check check, String sentence) {
        return new Run(check, sentence).made("set 0 16; create; create; create; create; open 0; open 1; open 2; open 3")
            .made("append 1 1 1; append 2 1 2; append 2 2 2; append 3 1 3; append 3 2 3; append 3 3 3");
    }

    /** Eight files, each of them open and of one block with one lent behind it: 48 blocks are free. */
    static Run eight(Check check, String sentence) {
        Run run = new Run(check, sentence);
        for (int file = 0; file < 8; file++) {
            run.made("create; open " + file + "; append " + file + " 1 " + (10 * file));
        }
        return run;
    }
}
