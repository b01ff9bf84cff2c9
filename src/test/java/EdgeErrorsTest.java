/**
 * "Errors" of the terms: each error code of each method in the order in which the document lists them, in
 * several states, with a look that the refused call has changed nothing. Where several codes apply, the
 * first one in the list is due. Queries are looked at in the same way: they change nothing, too.
 */
final class EdgeErrorsTest {
    private static final Check CHECK = new Check("EdgeErrorsTest");
    private static final int NO_SUCH = -1;
    private static final int BAD_VALUE = -2;
    private static final int TOO_MANY = -3;
    private static final int NOT_POSSIBLE = -4;
    private static final int NONE = -5;
    private static final String[] NO_FILES = {"min", "-2", "-1", "8", "9", "max"};

    public static void main(String[] args) {
        onANewDisk();
        onADiskInUse();
        onAFullDisk();
        behindACrash();
        withEightFiles();
        anUnknownFileAheadOfAllElse();
        theConstants();
        CHECK.end();
    }

    /** The calls, each of which is refused with this answer, and changes nothing. */
    private static void all(Run run, int answer, String... calls) {
        for (String call : calls) {
            run.dueUnchanged(call, answer);
        }
    }

    private static Run run(String sentence) {
        return new Run(CHECK, "A method that returns an error code changes nothing, " + sentence);
    }

    private static void onANewDisk() {
        Run run = run("on a new disk");
        all(run, NO_SUCH, "open 0", "close 0", "remove 0", "sync 0", "append 0 1 1", "append 0 0 1", "append 0 1 100",
            "append 0 65 -1", "cut 0 0", "cut 0 -1", "cut 0 65", "file 0 0", "file 0 6", "extent 0 0 0", "extent 0 -1 2",
            "read 0 0 1 0", "read 0 64 65 2", "ifAppended 0 1 0", "ifAppended 0 0 3", "room 0", "set -1 0", "set 2 0", "set 2 99",
            "block -1 0", "block 64 0", "block 64 4");
        all(run, BAD_VALUE, "set 0 17", "set 1 2", "type 31", "type 127", "block 0 4", "block 63 -1", "run -1 0", "run 0 2",
            "run 0 -1", "run 1 2", "count -1", "count 11", "total -1", "total 4");
        all(run, NOT_POSSIBLE, "restore");
        all(run, -100, "perform");
        all(run, NONE, "undo", "run 1 0", "block 0 0", "block 0 2");
        run.dueUnchanged("wholeness", 1.0).dueUnchanged("fault", 0).dueUnchanged("clearText", 0);
    }

    /**
     * File 0 is open with 7 blocks of data and 2 lent, 1 is open with 5 and 1, 2 is closed with 3, 3 is
     * closed with none; 46 are free. There are five states, a snapshot and a text.
     */
    private static void onADiskInUse() {
        Run run = run("on a disk in use").made("create; create; create; create; open 0; open 1; open 2; append 2 3 9; close 2")
            .made("append 0 3 1; sync 0; append 1 5 2; save; append 0 4 3; set 0 5; set 1 1").typed("n;q");
        refusedFileCalls(run);
        all(run, NO_SUCH, "set -1 0", "set 2 0", "set min 0", "set max 0", "set 2 17", "set -1 -1",
            "block -1 0", "block 64 0", "block min 0", "block max 0", "block -1 4", "block 64 -1");
        all(run, BAD_VALUE, "set 0 -1", "set 0 17", "set 1 -1", "set 1 2", "type 31", "type 127", "block 0 -1", "block 0 4",
            "block 63 4", "block 63 max", "run -1 0", "run min 0", "run 0 -1", "run 0 2", "run 9 2", "run -1 2", "count -1",
            "count 11", "count min", "count max", "total -1", "total 4", "total min", "total max");
        all(run, -102, "perform");
        all(run, NONE, "run 1 0", "run max 1");
        queries(run);
    }

    private static void refusedFileCalls(Run run) {
        all(run, NO_SUCH, "open 4", "close 4", "remove 4", "sync 4", "append 4 1 1", "append 4 0 1", "append 4 1 -1", "cut 4 0",
            "cut 4 -1", "file 4 0", "file 4 6", "extent 4 0 0", "extent 4 -1 0", "extent 4 0 2", "read 4 0 1 0", "read 4 -1 1 0",
            "read 4 0 0 0", "read 4 0 1 2", "ifAppended 4 1 0", "ifAppended 4 65 0", "ifAppended 4 1 -1", "room 4");
        all(run, BAD_VALUE, "append 0 0 1", "append 0 65 1", "append 0 min 1", "append 0 max 1", "append 0 1 -1", "append 0 1 100",
            "append 0 1 min", "append 0 1 max", "append 0 0 100", "append 2 0 1", "append 2 65 1", "append 2 1 -1",
            "append 2 1 100", "append 0 64 100", "cut 0 -1", "cut 0 65", "cut 0 min", "cut 0 max", "cut 2 -1", "cut 2 65",
            "file 0 -1", "file 0 6", "file 3 min", "file 3 max", "extent 0 -1 0", "extent 0 min 0", "extent 0 0 -1",
            "extent 0 0 2", "extent 0 9 2", "extent 3 0 2", "extent 0 -1 2", "read 0 -1 1 0", "read 0 64 1 0", "read 0 min 1 0",
            "read 0 max 1 0", "read 0 0 0 0", "read 0 0 65 0", "read 0 0 min 0", "read 0 0 max 0", "read 0 0 1 -1",
            "read 0 0 1 2", "read 0 63 0 0", "read 0 63 65 0", "read 0 63 64 2", "read 3 0 0 0", "read 3 0 1 2",
            "ifAppended 0 0 0", "ifAppended 0 65 0", "ifAppended 0 -1 0", "ifAppended 0 max 0", "ifAppended 0 1 -1",
            "ifAppended 0 1 3", "ifAppended 0 64 3", "ifAppended 2 0 0", "ifAppended 2 1 3", "ifAppended 2 65 3");
        all(run, NOT_POSSIBLE, "open 0", "open 1", "close 2", "close 3", "remove 0", "remove 1", "sync 2", "sync 3", "append 2 1 1",
            "append 3 64 99", "append 0 64 1", "append 0 50 1", "cut 2 0", "cut 2 3", "cut 3 0", "cut 2 64", "cut 0 8", "cut 0 9",
            "cut 0 64", "ifAppended 2 1 0", "ifAppended 2 1 1", "ifAppended 2 1 2", "ifAppended 0 64 0", "ifAppended 0 50 1",
            "ifAppended 1 50 2", "room 2", "room 3");
        all(run, NONE, "extent 0 2 0", "extent 0 max 1", "extent 3 0 0", "extent 2 1 0", "read 0 7 1 0", "read 0 63 64 1",
            "read 2 3 1 0", "read 3 0 1 0");
    }

    /**
     * The queries that are answered. File 2 takes 0 to 2 and gives 3 back, file 0 takes 3 to 6, file 1
     * takes 7 to 12; then file 0 needs 3 and has the lend 2, and takes 13 to 17.
     */
    private static void queries(Run run) {
        String[] calls = {"block 0 0", "block 2 1", "block 6 2", "block 63 3", "file 0 0", "file 0 1", "file 0 2", "file 0 3",
            "file 0 4", "file 0 5", "extent 0 0 0", "extent 0 1 0", "extent 0 1 1", "run 0 0", "run 0 1", "read 0 0 64 0",
            "read 0 2 3 1", "read 2 0 64 0", "count 0", "count 1", "count 2", "count 3", "count 4", "count 5", "count 6",
            "count 7", "count 8", "count 9", "count 10", "total 0", "total 1", "total 2", "total 3", "room 0", "fault",
            "ifAppended 0 2 0", "ifAppended 0 2 1", "ifAppended 0 3 1", "ifAppended 0 3 2", "ifAppended 0 49 0",
            "ifAppended 0 49 1", "ifAppended 0 49 2", "wholeness"};
        double[] answers = {2, 1, 3, 0, 7, 2, 3, 1,
            2, 4, 3, 13, 5, 18, 46, 3 * 1 + 4 * 3,
            3, 27, 4, 2, 46, 15, 3, 0, 1,
            46, 4, 5, 3, 15, 1, 0, 0, 49, 2,
            2, 0, 4, 41, 3,
            0, 0, 3.0 / 4.0};
        for (int i = 0; i < calls.length; i++) {
            run.dueUnchanged(calls[i], answers[i]);
        }
    }

    private static void onAFullDisk() {
        Run run = run("on a full disk").made("create; create; open 0; open 1; append 0 64 99; save");
        all(run, NO_SUCH, "append 2 1 1", "ifAppended 2 1 0", "room 2");
        all(run, BAD_VALUE, "append 0 0 1", "append 1 65 1", "append 1 1 100", "ifAppended 0 0 0", "ifAppended 1 65 0",
            "ifAppended 1 1 3", "cut 0 65", "cut 0 -1");
        all(run, NOT_POSSIBLE, "append 0 1 1", "append 1 1 1", "append 0 64 99", "ifAppended 0 1 0", "ifAppended 1 1 1",
            "ifAppended 1 64 2", "cut 1 1", "cut 1 64", "open 0", "open 1", "remove 0", "remove 1");
        all(run, NONE, "run 0 0", "run 0 1", "extent 0 1 0", "extent 1 0 0", "read 1 0 64 0");
        all(run, 0, "room 0", "room 1", "count 2", "count 6", "count 7");
        run.made("close 0");
        all(run, NOT_POSSIBLE, "append 0 1 1", "append 1 1 1", "ifAppended 0 1 0", "room 0", "cut 0 64", "sync 0", "close 0");
    }

    private static void behindACrash() {
        Run run = run("behind a crash").made("create; create; open 0; open 1; append 0 5 1; sync 0; append 0 4 2")
            .made("append 1 50 3; crash");
        all(run, NO_SUCH, "open 2", "close 2", "remove 2", "sync 2", "append 2 1 1", "cut 2 0");
        all(run, BAD_VALUE, "append 0 0 1", "append 1 1 100", "cut 0 65", "cut 0 -1", "read 1 64 1 0");
        all(run, NOT_POSSIBLE, "close 0", "close 1", "sync 0", "sync 1", "append 0 1 1", "append 1 64 1", "cut 0 0", "cut 0 5",
            "cut 1 0", "ifAppended 0 1 0", "ifAppended 1 1 2", "room 0", "room 1", "restore");
        all(run, NONE, "read 0 5 1 0", "read 1 0 1 0");
        run.made("open 0");
        all(run, NOT_POSSIBLE, "append 0 60 1", "append 0 64 1", "cut 0 6", "remove 0", "ifAppended 0 60 1", "append 1 1 1", "open 0");
        run.dueUnchanged("ifAppended 0 59 2", 0).dueUnchanged("room 0", 59).dueUnchanged("count 5", 51);
    }

    private static void withEightFiles() {
        Run run = Layouts.eight(CHECK, "A method that returns an error code changes nothing, with eight files");
        all(run, TOO_MANY, "create");
        all(run, NOT_POSSIBLE, "open 0", "open 7", "remove 0", "remove 7", "append 0 57 1", "append 7 64 1", "cut 7 2", "restore");
        for (String file : NO_FILES) {
            all(run, NO_SUCH, "open " + file, "close " + file, "remove " + file, "sync " + file, "append " + file + " 1 1",
                "cut " + file + " 0", "file " + file + " 0", "extent " + file + " 0 0", "read " + file + " 0 1 0",
                "ifAppended " + file + " 1 0", "room " + file);
        }
        run.typed("nnnnnnnnnnnnnnnnnnnnnnnnnnnnnnnnnnnnnnnnnnnnnnnnnnnnnnnnnnnnnnnnnnnnnnnnnnnnnnnn");
        all(run, TOO_MANY, "type 32", "type 59", "type 126", "create");
        all(run, BAD_VALUE, "type 31", "type 127", "type min", "type max");
        all(run, -101, "perform");
    }

    private static void anUnknownFileAheadOfAllElse() {
        Run run = run("the first code that applies is returned").made("create; open 0; append 0 64 1; close 0; create; remove 1");
        for (String file : new String[] {"-1", "1", "7", "8"}) {
            all(run, NO_SUCH, "append " + file + " 0 1", "append " + file + " 65 1", "append " + file + " 1 -1",
                "append " + file + " 1 100", "append " + file + " 64 99", "cut " + file + " -1", "cut " + file + " 65",
                "cut " + file + " 64", "file " + file + " -1", "file " + file + " 6", "extent " + file + " -1 0",
                "extent " + file + " 0 2", "extent " + file + " 99 0", "read " + file + " -1 1 0", "read " + file + " 64 1 0",
                "read " + file + " 0 0 0", "read " + file + " 0 65 0", "read " + file + " 0 1 2", "read " + file + " 63 1 0",
                "ifAppended " + file + " 0 0", "ifAppended " + file + " 65 0", "ifAppended " + file + " 1 3",
                "ifAppended " + file + " 1 -1");
        }
    }

    private static void theConstants() {
        CHECK.due("NO_SUCH", NO_SUCH, LendingDisk.NO_SUCH);
        CHECK.due("BAD_VALUE", BAD_VALUE, LendingDisk.BAD_VALUE);
        CHECK.due("TOO_MANY", TOO_MANY, LendingDisk.TOO_MANY);
        CHECK.due("NOT_POSSIBLE", NOT_POSSIBLE, LendingDisk.NOT_POSSIBLE);
        CHECK.due("NONE", NONE, LendingDisk.NONE);
    }
}
