/** The edges of the queries and of what would be: promises 19 to 28. */
final class EdgeQueriesTest {
    private static final Check CHECK = new Check("EdgeQueriesTest");
    private static final int NONE = LendingDisk.NONE;

    private static Run run(String sentence) {
        return new Run(CHECK, sentence);
    }

    public static void main(String[] args) {
        whatOfABlock();
        whatOfAFile();
        whatOfAnExtent();
        whatOfARun();
        fromAndMany();
        readingStops();
        readingAFullFile();
        readingLentBlocks();
        readingInTheOrderOfTheSequence();
        readingTheGreatestSum();
        countOfNothing();
        countOfAll();
        countOfFiles();
        countOfStatesAndText();
        totalWritten();
        totalGivenBack();
        totalOfGivers();
        totalLost();
        ifAppendedIsAppend();
        ifAppendedAtItsEdges();
        roomOfNothingAndAll();
        roomIsTheGreatest();
        wholeness();
        CHECK.end();
    }

    private static void whatOfABlock() {
        Run run = run("what: 0 to 3 of a block").made("create; create; open 1; append 1 2 9");
        int[][] want = {{1, 1, 0, 9}, {1, 1, 1, 9}, {1, 2, 2, 0}, {NONE, 0, NONE, 0}};
        for (int block = 0; block < 4; block++) {
            run.dueUnchanged("block " + block + " -1", -2).dueUnchanged("block " + block + " 4", -2);
            for (int what = 0; what < 4; what++) {
                run.dueUnchanged("block " + block + " " + what, want[block][what]);
            }
        }
        run.dueUnchanged("block 63 min", -2).dueUnchanged("block 63 max", -2).dueUnchanged("block 64 4", -1);
    }

    private static void whatOfAFile() {
        Run run = run("what: 0 to 5 of a file").made("create; create; open 1; append 1 2 9; sync 1; append 1 2 9");
        int[] closed = {0, 0, 0, 0, 0, 1};
        int[] open = {4, 2, 2, 1, 1, 4};
        for (int what = 0; what < 6; what++) {
            run.dueUnchanged("file 0 " + what, closed[what]).dueUnchanged("file 1 " + what, open[what]);
        }
        run.dueUnchanged("file 1 -1", -2).dueUnchanged("file 1 6", -2).dueUnchanged("file 0 min", -2).dueUnchanged("file 0 max", -2);
        run.dueUnchanged("file 2 0", -1).dueUnchanged("file 2 6", -1);
    }

    private static void whatOfAnExtent() {
        Run run = Layouts.holes(CHECK, "extent: number of an extent, what: 0 or 1", 0, new int[] {2, 1, 1}, 1);
        run.made("open 2").due("append 2 3 9", 1).made("close 2; open 0").due("append 0 3 9", 2).made("close 0");
        // file 0 has 0 to 2 and 7 and 8
        run.dueUnchanged("extent 0 -1 0", -2).dueUnchanged("extent 0 -1 1", -2).dueUnchanged("extent 0 min 0", -2);
        run.dueUnchanged("extent 0 0 -1", -2).dueUnchanged("extent 0 0 2", -2).dueUnchanged("extent 0 1 2", -2);
        run.dueUnchanged("extent 0 2 2", -2).dueUnchanged("extent 0 2 0", NONE).dueUnchanged("extent 0 max 1", NONE);
        run.due("extent 0 0 0", 0).due("extent 0 0 1", 3).due("extent 0 1 0", 7).due("extent 0 1 1", 2).due("file 0 4", 2);
        run.due("extent 2 0 0", 3).due("extent 2 0 1", 4).due("extent 2 1 0", NONE).due("extent 1 0 0", -1);
    }

    private static void whatOfARun() {
        Run run = Layouts.holes(CHECK, "run: number of a free run, what: 0 or 1", 0, new int[] {2, 1, 3, 1}, 0, 2);
        run.dueUnchanged("run -1 0", -2).dueUnchanged("run min 1", -2).dueUnchanged("run 0 -1", -2).dueUnchanged("run 0 2", -2);
        run.dueUnchanged("run 3 2", -2).dueUnchanged("run -1 2", -2).dueUnchanged("run 3 0", NONE).dueUnchanged("run max 1", NONE);
        int[][] want = {{0, 2}, {3, 3}, {7, 57}};
        for (int number = 0; number < 3; number++) {
            run.dueUnchanged("run " + number + " 0", want[number][0]).dueUnchanged("run " + number + " 1", want[number][1]);
        }
    }

    private static void fromAndMany() {
        run("from: 0 to 63, many: 1 to 64, what: 0 or 1").made("create; open 0; append 0 64 1")
            .dueUnchanged("read 0 min 1 1", -2).dueUnchanged("read 0 -1 1 1", -2).dueUnchanged("read 0 0 1 1", 1)
            .dueUnchanged("read 0 1 1 1", 1).dueUnchanged("read 0 62 1 1", 1).dueUnchanged("read 0 63 1 1", 1)
            .dueUnchanged("read 0 64 1 1", -2).dueUnchanged("read 0 max 1 1", -2)
            .dueUnchanged("read 0 0 min 1", -2).dueUnchanged("read 0 0 0 1", -2).dueUnchanged("read 0 0 2 1", 2)
            .dueUnchanged("read 0 0 63 1", 63).dueUnchanged("read 0 0 64 1", 64).dueUnchanged("read 0 0 65 1", -2)
            .dueUnchanged("read 0 0 max 1", -2).dueUnchanged("read 0 0 1 -1", -2).dueUnchanged("read 0 0 1 0", 1)
            .dueUnchanged("read 0 0 1 2", -2).dueUnchanged("read 0 0 1 min", -2).dueUnchanged("read 0 0 1 max", -2)
            .dueUnchanged("read 1 0 1 0", -1).dueUnchanged("read 1 64 65 2", -1);
    }

    private static void readingStops() {
        Run run = run("Reading stops at the end of the data.")
            .made("create; open 0; append 0 2 10; append 0 1 20; append 0 2 30; cut 0 5");
        int[] stamps = {10, 10, 20, 30, 30};
        for (int from = 0; from < 5; from++) {
            for (int many = 1; many <= 6; many++) {
                int sum = 0;
                for (int place = from; place < Math.min(5, from + many); place++) {
                    sum += stamps[place];
                }
                run.due("read 0 " + from + " " + many + " 0", sum);
                run.due("read 0 " + from + " " + many + " 1", Math.min(many, 5 - from));
            }
            run.due("read 0 " + from + " 64 1", 5 - from);
        }
        run.dueUnchanged("read 0 5 1 0", NONE).dueUnchanged("read 0 5 64 1", NONE).dueUnchanged("read 0 63 64 1", NONE);
        run("a file without data").made("create").dueUnchanged("read 0 0 1 0", NONE).dueUnchanged("read 0 0 64 1", NONE)
            .dueUnchanged("read 0 63 1 1", NONE).dueUnchanged("read 0 64 1 1", -2);
        run("a file of one block").made("create; open 0; append 0 1 7; close 0").due("read 0 0 1 0", 7).due("read 0 0 64 0", 7)
            .due("read 0 0 64 1", 1).due("read 0 1 1 0", NONE);
    }

    private static void readingAFullFile() {
        Run run = run("index of the first block that is read, 0 to 63").made("create; open 0; append 0 32 1; append 0 32 2; sync 0");
        run.due("read 0 0 64 1", 64).due("read 0 0 64 0", 96).due("read 0 0 63 0", 94).due("read 0 1 64 1", 63);
        run.due("read 0 1 64 0", 95).due("read 0 63 1 0", 2).due("read 0 63 64 0", 2).due("read 0 63 64 1", 1);
        run.due("read 0 31 2 0", 3).due("read 0 32 32 1", 32).due("read 0 32 33 1", 32).due("read 0 62 2 1", 2);
        run.made("close 0").due("read 0 0 64 0", 96).due("read 0 63 64 1", 1);
    }

    private static void readingLentBlocks() {
        run("Reading stops at the end of the data: lent blocks are not read")
            .made("create; open 0; append 0 5 7; sync 0; append 0 5 9; crash").due("file 0 1", 7)
            .due("read 0 0 64 0", 35).due("read 0 0 64 1", 5).due("read 0 4 2 0", 7).due("read 0 4 2 1", 1)
            .dueUnchanged("read 0 5 1 0", NONE).dueUnchanged("read 0 11 1 0", NONE);
        run("Reading stops at the end of the data: all are lent").made("create; open 0; append 0 64 7; crash")
            .dueUnchanged("read 0 0 64 0", NONE).dueUnchanged("read 0 0 1 1", NONE);
    }

    private static void readingInTheOrderOfTheSequence() {
        Layouts.holes(CHECK, "a file is read in the order of its sequence", 0, new int[] {1, 1, 62}, 0).made("open 1; append 1 1 50")
            // the sequence is 1, 0 with the stamps 2, 50
            .due("read 1 0 1 0", 2).due("read 1 1 1 0", 50).due("read 1 0 2 0", 52).due("read 1 1 64 1", 1)
            .due("read 1 2 1 0", NONE);
    }

    private static void readingTheGreatestSum() {
        run("the sum of the stamps").made("create; open 0; append 0 64 99").due("read 0 0 64 0", 6336)
            .made("cut 0 0; append 0 64 0").due("read 0 0 64 0", 0).due("read 0 0 64 1", 64);
    }

    private static void counts(Run run, int... want) {
        run.dueUnchanged("count -1", -2).dueUnchanged("count 11", -2);
        for (int what = 0; what < want.length; what++) {
            run.dueUnchanged("count " + what, want[what]);
        }
    }

    private static void countOfNothing() {
        counts(run("a number about the whole disk: nothing"), 0, 0, 64, 0, 0, 0, 1, 64, 0, 0, 0);
        counts(run("a number about the whole disk: one file").made("create"), 1, 0, 64, 0, 0, 0, 1, 64, 0, 1, 0);
        run("count: what").dueUnchanged("count min", -2).dueUnchanged("count max", -2);
    }

    private static void countOfAll() {
        counts(run("no free block, data alone").made("create; open 0; append 0 64 1").typed("n"), 1, 1, 0, 64, 0, 0, 0, 0, 1, 3, 1);
        counts(run("no free block, lent alone").made("create; open 0; append 0 64 1; crash"), 1, 0, 0, 0, 64, 64, 0, 0, 1, 4, 0);
        counts(run("lent to open files").made("create; open 0; append 0 64 1; crash; open 0"), 1, 1, 0, 0, 64, 0, 0, 0, 1, 5, 0);
        counts(run("one free block").made("create; open 0; append 0 62 1"), 1, 1, 1, 62, 1, 0, 1, 1, 1, 3, 0);
        Run run = Layouts.allApart(CHECK, "the most extents").made("undo; undo; undo; undo; undo");
        counts(run, 1, 1, 5, 59, 0, 0, 5, 1, 59, 0, 0);
    }

    private static void countOfFiles() {
        Run run = Layouts.eight(CHECK, "8 files").made("crash");
        counts(run.again("8 files, closed"), 8, 0, 48, 0, 16, 16, 1, 48, 8, 5, 0);
        run.made("open 0; open 7");
        counts(run.again("8 files, two open"), 8, 2, 48, 0, 16, 12, 1, 48, 8, 5, 0);
        run.made("mend");
        counts(run, 8, 2, 60, 0, 4, 0, 2, 48, 2, 5, 0);
    }

    private static void countOfStatesAndText() {
        Run run = run("states in the history, the length of the text").typed("n;n;n;n");
        for (int turn = 1; turn <= 7; turn++) {
            run.due("perform", turn <= 2 ? 4 : 0).due("count 9", Math.min(turn, 5)).due("count 10", 7);
        }
        run.due("undo", 4).due("count 9", 4);
        Run full = run("the length of the text: 80");
        for (int length = 0; length < 80; length++) {
            full.due("count 10", length).made("type 126");
        }
        full.dueUnchanged("count 10", 80).due("type 126", -3).due("count 10", 80).due("clearText", 80).due("count 10", 0);
    }

    private static void totalWritten() {
        run("0 for blocks that were written").dueUnchanged("total 0", 0)
            .made("create; open 0; append 0 64 1").dueUnchanged("total 0", 64)
            .made("cut 0 0").due("total 0", 64).made("append 0 64 1").due("total 0", 128).dueUnchanged("append 0 1 1", -4)
            .made("close 0; remove 0").due("total 0", 128).made("create; open 0; append 0 1 1").due("total 0", 129)
            .due("ifAppended 0 5 0", 1).due("total 0", 129).dueUnchanged("total -1", -2).dueUnchanged("total 4", -2)
            .dueUnchanged("total min", -2).dueUnchanged("total max", -2);
    }

    private static void totalGivenBack() {
        run("1 for blocks that were given back (by close, cut, mend, and in the step 2; without the blocks that held data)")
            .due("total 1", 0).made("create; create; open 0; open 1; append 0 3 1; close 0").due("total 1", 1)
            .made("open 0; append 0 3 1; cut 0 2").due("total 1", 2).made("append 0 3 1; crash").due("total 1", 2)
            // closed with the size 3 and cut to 2, so that 2 blocks are safe
            .due("file 0 0", 2).due("file 0 1", 4).due("mend", 4).due("total 1", 6)
            .made("open 0; append 0 3 1; open 1; append 1 59 1").due("total 1", 7).due("total 2", 1)
            .made("cut 0 1").due("total 1", 7).made("crash").due("total 1", 7).made("remove 1").due("total 1", 7);
    }

    private static void totalOfGivers() {
        Run run = Layouts.eight(CHECK, "2 for files that gave blocks back in the step 2 of appending (each time)").due("total 2", 0);
        run.made("append 0 49 1").due("total 2", 0).made("cut 0 1").due("total 1", 0).due("count 2", 49);
        run.made("append 0 50 1").due("total 2", 1).due("total 1", 1).made("cut 0 1; append 1 1 1").due("count 2", 48);
        run.made("append 0 55 1").due("total 2", 8).due("total 1", 8).made("cut 0 1; cut 1 1; append 1 1 1").due("count 2", 54);
        run.made("append 0 55 1").due("total 2", 9).due("total 1", 9);
        run.made("close 7; close 6; mend").due("total 2", 9);
    }

    private static void totalLost() {
        run("3 for blocks that lost their data by crashes").due("total 3", 0).made("create; open 0; append 0 64 1; crash")
            .due("total 3", 64).made("open 0; append 0 64 1; crash").due("total 3", 128).made("open 0; append 0 1 1; cut 0 0")
            .due("total 3", 128).made("append 0 5 1; sync 0; crash; remove 0").due("total 3", 128);
    }

    /** The answers of ifAppended are what append and the queries behind it answer. */
    private static void likeAppend(Run run, int file, int most) {
        int[] step = {1, 2, 3, 5, 8, 9, 15, 16, 17, 31, 45, 46, 47, 48, 49, 50, 51, 52, 53, 54, 63, 64};
        for (int blocks : step) {
            Run other = run.again("Tells how a file would be if blocks were appended to it: " + blocks + " to " + file);
            String call = "ifAppended " + file + " " + blocks + " ";
            if (blocks > most) {
                for (int what = 0; what < 3; what++) {
                    other.dueUnchanged(call + what, -4);
                }
                other.dueUnchanged("append " + file + " " + blocks + " 5", -4);
            } else {
                other.sameAnswers(new String[] {call + "0", call + "1", call + "2"},
                    new String[] {"append " + file + " " + blocks + " 5", "file " + file + " 1", "count 2"});
            }
        }
    }

    private static void ifAppendedIsAppend() {
        likeAppend(Layouts.lenders(CHECK, ""), 0, 54);
        likeAppend(Layouts.lenders(CHECK, ""), 3, 54);
        likeAppend(Layouts.eight(CHECK, ""), 7, 56);
        likeAppend(Layouts.everySecond(CHECK, "").made("set 0 16"), 1, 32);
        likeAppend(run("").made("create; open 0"), 0, 64);
        int[] sizes = {3, 5, 1, 4, 1, 2, 1};
        for (int policy = 0; policy < 2; policy++) {
            likeAppend(Layouts.holes(CHECK, "", policy, sizes, 1, 3, 5).made("set 0 16; open 0"), 0, 58);
            likeAppend(Layouts.holes(CHECK, "", policy, sizes, 1, 3, 5).made("set 0 16; open 6"), 6, 58);
        }
    }

    private static void ifAppendedAtItsEdges() {
        run("blocks: 1 to 64, what: 0 to 2").made("create; open 0").dueUnchanged("ifAppended 0 min 0", -2)
            .dueUnchanged("ifAppended 0 -1 0", -2).dueUnchanged("ifAppended 0 0 0", -2).dueUnchanged("ifAppended 0 65 0", -2)
            .dueUnchanged("ifAppended 0 max 0", -2).dueUnchanged("ifAppended 0 1 min", -2).dueUnchanged("ifAppended 0 1 -1", -2)
            .dueUnchanged("ifAppended 0 1 3", -2).dueUnchanged("ifAppended 0 1 max", -2)
            .dueUnchanged("ifAppended 0 1 0", 1).dueUnchanged("ifAppended 0 1 1", 1).dueUnchanged("ifAppended 0 1 2", 62)
            .dueUnchanged("ifAppended 0 63 0", 1).dueUnchanged("ifAppended 0 63 1", 1).dueUnchanged("ifAppended 0 63 2", 0)
            .dueUnchanged("ifAppended 0 64 0", 1).dueUnchanged("ifAppended 0 64 1", 0).dueUnchanged("ifAppended 0 64 2", 0);
        Layouts.lenders(CHECK, "files that would give back keep their blocks").dueUnchanged("ifAppended 0 54 2", 0)
            .dueUnchanged("ifAppended 0 54 1", 0).dueUnchanged("ifAppended 0 54 0", 3).dueUnchanged("ifAppended 0 55 0", -4)
            .dueUnchanged("ifAppended 0 48 2", 2).dueUnchanged("ifAppended 0 48 1", 1).dueUnchanged("ifAppended 0 48 0", 1);
    }

    private static void roomOfNothingAndAll() {
        run("from 0 to 64").made("create; create; open 0; open 1").dueUnchanged("room 0", 64).dueUnchanged("room 1", 64)
            .made("append 0 1 1").dueUnchanged("room 0", 63).dueUnchanged("room 1", 63).made("append 0 62 1")
            .dueUnchanged("room 0", 1).dueUnchanged("room 1", 1).made("append 0 1 1").dueUnchanged("room 0", 0)
            .dueUnchanged("room 1", 0).made("crash").dueUnchanged("room 0", -4).dueUnchanged("room 1", -4)
            .made("open 0").dueUnchanged("room 0", 64).made("open 1").dueUnchanged("room 1", 64);
        Run run = run("NO_SUCH if there is no such file; NOT_POSSIBLE if the file is closed").dueUnchanged("room 0", -1);
        run.made("create").dueUnchanged("room 0", -4).dueUnchanged("room 1", -1).dueUnchanged("room -1", -1);
        run.dueUnchanged("room 8", -1).dueUnchanged("room min", -1).dueUnchanged("room max", -1);
    }

    private static void roomIsTheGreatest() {
        Run[] runs = {Layouts.lenders(CHECK, ""), Layouts.eight(CHECK, ""), Layouts.everySecond(CHECK, "").made("create; open 0"),
            run("").made("set 0 0; create; create; open 0; open 1; append 0 30 1; append 1 9 1"),
            run("").made("create; create; open 0; append 0 30 1; sync 0; append 0 20 1; crash; open 0; open 1")};
        int[] rooms = {54, 56, 32, 25, 34};
        for (int i = 0; i < runs.length; i++) {
            for (int file = 0; file < 2; file++) {
                Run run = runs[i].again("the greatest number for which appending would be possible");
                run.dueUnchanged("room " + file, rooms[i]).dueUnchanged("append " + file + " " + (rooms[i] + 1) + " 5", -4);
                run.made("append " + file + " " + rooms[i] + " 5").due("room " + file, 0).due("count 3", 64);
            }
        }
    }

    private static void wholeness() {
        run("1.0 if there is none").dueUnchanged("wholeness", 1.0).made("create; create; open 1").dueUnchanged("wholeness", 1.0)
            .made("append 1 64 1").dueUnchanged("wholeness", 1.0).made("cut 1 0").dueUnchanged("wholeness", 1.0);
        Layouts.allApart(CHECK, "the least there can be").dueUnchanged("wholeness", 1.0 / 64.0);
        Layouts.everySecond(CHECK, "of one file").dueUnchanged("wholeness", 1.0 / 32.0).made("undo; undo")
            .dueUnchanged("wholeness", 2.0 / 64.0);
        Layouts.eight(CHECK, "8 files of one extent").dueUnchanged("wholeness", 1.0).made("append 0 2 1")
            .dueUnchanged("wholeness", 8.0 / 9.0).made("append 3 2 1").dueUnchanged("wholeness", 8.0 / 10.0)
            .made("close 7; remove 7").dueUnchanged("wholeness", 7.0 / 9.0);
        Layouts.holes(CHECK, "files of one block each", 0, new int[] {1, 1, 1}).dueUnchanged("wholeness", 1.0)
            .made("open 0; append 0 1 9").dueUnchanged("wholeness", 3.0 / 4.0).made("close 0; remove 0; remove 1")
            .dueUnchanged("wholeness", 1.0).made("remove 2").dueUnchanged("wholeness", 1.0);
        run("files with blocks: lent ones, too")
            .made("create; create; create; open 0; open 1; append 0 2 1; append 1 2 1; append 0 5 1; crash")
            .dueUnchanged("wholeness", 2.0 / 3.0).made("mend").dueUnchanged("wholeness", 1.0);
    }
}
