/** The edges of the history and of the snapshot: "Actions and history" of the terms, and promises 16 to 18. */
final class EdgeHistoryTest {
    private static final Check CHECK = new Check("EdgeHistoryTest");
    private static final int NONE = LendingDisk.NONE;
    /**
     * File 0 is open with 3 safe blocks, 4 not safe and 2 lent, file 1 with 7 not safe and 2 lent; 5 are
     * lent to file 2, which is closed; 41 are free. Two states are in the history.
     */
    private static final String START = Run.typing("n;n;n;o2;a2:4=4;!;o0;a0:3=1;s0;a0:4=2;o1;a1:5=3")
        + "; perform; save; append 1 2 7; clearText; " + Run.typing("n;a0:9=9;!;m");
    private static final String[] ACTIONS = {"create", "open 2", "close 0", "remove 2", "sync 0", "append 0 9 9",
        "append 0 47 9", "cut 0 2", "crash", "mend", "set 0 1", "set 1 1", "perform", "restore"};

    private static Run run(String sentence) {
        return new Run(CHECK, sentence);
    }

    public static void main(String[] args) {
        emptyHistory();
        atMostFive();
        theSixthDropsTheOldest();
        theRingGoesRound();
        eachAction();
        eachActionOnAFullHistory();
        actionsWithoutAChange();
        refusedActions();
        whatIsNoAction();
        undoIsNoAction();
        undoRestoresAll();
        textIsNotOfTheState();
        snapshotIsNotOfTheState();
        historyIsNotOfTheState();
        noSnapshot();
        saveReplaces();
        saveOfNothingAndAll();
        snapshotRemains();
        restoreIsUndone();
        CHECK.end();
    }

    private static void emptyHistory() {
        run("NONE if the history is empty").dueUnchanged("undo", NONE).dueUnchanged("undo", NONE).due("count 9", 0)
            .made("create").due("count 9", 1).due("undo", 0).dueUnchanged("undo", NONE).due("count 0", 0)
            .due("create", 0).due("undo", 0);
    }

    private static void atMostFive() {
        Run run = run("The history holds at most 5 states");
        for (int states = 1; states <= 5; states++) {
            run.made("create").due("count 9", states);
        }
        run.again("4 are left, then fewer").due("undo", 4).due("count 0", 4).due("undo", 3).due("undo", 2).due("undo", 1)
            .due("undo", 0).due("count 0", 0).due("count 9", 0).dueUnchanged("undo", NONE);
        run.made("create").due("count 9", 5).made("create").due("count 9", 5);
    }

    private static void theSixthDropsTheOldest() {
        run("when a sixth state is recorded, the oldest one is dropped")
            .made("create; create; create; create; create; create").due("undo", 4).due("count 0", 5).due("undo", 3)
            .due("count 0", 4).due("undo", 2).due("count 0", 3).due("undo", 1).due("count 0", 2).due("undo", 0)
            .due("count 0", 1).dueUnchanged("undo", NONE).due("count 0", 1);
        run("when a seventh state is recorded").made("create; create; create; create; create; create; create")
            .due("undo", 4).due("undo", 3).due("undo", 2).due("undo", 1).due("undo", 0).due("count 0", 2).due("undo", NONE);
    }

    private static void theRingGoesRound() {
        for (int actions = 0; actions <= 16; actions++) {
            Run run = run("the states are left in their order, actions " + actions);
            for (int value = 1; value <= actions; value++) {
                run.made("set 0 " + value);
            }
            int states = Math.min(actions, 5);
            run.due("count 9", states);
            for (int left = states - 1; left >= 0; left--) {
                run.due("undo", left);
            }
            run.due("undo", NONE).due("set 0 8", actions > 5 ? actions - 5 : 8);
        }
        run("undone and recorded in turn").made("create; create; create; create; create; create; create; undo; undo; undo")
            .made("create; create; create; create").due("count 9", 5).due("count 0", 8).due("undo", 4).due("undo", 3)
            .due("undo", 2).due("undo", 1).due("count 0", 4).due("undo", 0).due("count 0", 3).due("undo", NONE);
    }

    private static void eachAction() {
        for (String action : ACTIONS) {
            run("The actions are create, open, close, remove, sync, append, cut, crash, mend, set, perform and restore: " + action)
                .made(START).due("count 9", 2).made(action).due("count 9", 3).due("undo", 2).isAsAfter(START);
        }
    }

    private static void eachActionOnAFullHistory() {
        String start = START + "; create; remove 3; set 0 9";
        for (String action : ACTIONS) {
            run("Each action records the state before it, with 5 states there: " + action).made(start).due("count 9", 5)
                .made(action).due("count 9", 5).due("undo", 4).stateIsAsAfter(start)
                .due("undo", 3).due("set 0 9", 8).due("undo", 3).due("undo", 2).due("count 0", 4)
                .due("undo", 1).due("count 0", 3).due("file 1 0", 7).due("undo", 0).due("file 1 0", 5).due("undo", NONE);
        }
    }

    private static void actionsWithoutAChange() {
        run("even if the action changes nothing: sync").made("create; open 0").due("sync 0", 0).due("count 9", 3)
            .due("undo", 2).due("file 0 3", 1);
        run("even if the action changes nothing: crash, mend").due("crash", 0).due("count 9", 1).due("mend", 0).due("count 9", 2)
            .due("undo", 1).due("undo", 0);
        run("even if the action changes nothing: cut").made("create; open 0").due("cut 0 0", 0).due("count 9", 3);
        run("even if the action changes nothing: set").due("set 0 8", 8).due("set 1 0", 0).due("count 9", 2);
        run("even if the action changes nothing: restore").made("save").due("restore", 64).due("count 9", 1)
            .due("restore", 64).due("count 9", 2).due("undo", 1).due("undo", 0).due("undo", NONE);
        run("even if the action changes nothing: perform").typed("o0").due("perform", 0).due("count 9", 1).due("undo", 0);
    }

    private static void refusedActions() {
        run("Each action that returns no error code records the state before it")
            .made("create; open 0; create; append 0 3 1").dueUnchanged("open 0", -4).dueUnchanged("open 2", -1)
            .dueUnchanged("close 1", -4).dueUnchanged("remove 0", -4).dueUnchanged("sync 1", -4)
            .dueUnchanged("append 1 1 1", -4).dueUnchanged("append 0 0 1", -2).dueUnchanged("append 0 62 1", -4)
            .dueUnchanged("cut 0 4", -4).dueUnchanged("cut 0 65", -2).dueUnchanged("set 0 17", -2)
            .dueUnchanged("set 2 0", -1).dueUnchanged("perform", -100).dueUnchanged("restore", -4).due("count 9", 4);
    }

    private static void whatIsNoAction() {
        String[] calls = {"save", "type 110", "clearText", "fault", "block 0 0", "file 0 0", "extent 0 0 0", "run 0 0",
            "read 0 0 1 0", "count 9", "total 0", "ifAppended 0 9 0", "room 0", "wholeness"};
        for (String call : calls) {
            run("This is not an action: " + call).made(START).due("count 9", 2).made(call).due("count 9", 2)
                .due("undo", 1).due("file 1 0", 5).due("undo", 0).due("count 0", 0).due("undo", NONE);
        }
    }

    private static void undoIsNoAction() {
        run("Restores the latest state of the history and removes it: undo is not undone")
            .made("create; create; create").due("undo", 2).due("count 0", 2).due("undo", 1).due("count 0", 1)
            .due("undo", 0).due("count 0", 0).due("undo", NONE).due("count 0", 0);
        run("an action after undo").made("create; open 0; undo").due("create", 1).due("count 9", 2).due("undo", 1)
            .due("count 0", 1).due("file 0 3", 0).due("undo", 0).due("count 0", 0);
    }

    private static void undoRestoresAll() {
        String[] ahead = {"create; set 0 16; set 1 1; open 0; append 0 3 1", "append 0 5 2", "sync 0", "create", "open 1",
            "append 1 56 3", "cut 0 4", "crash", "mend", "remove 1", "set 0 0", "set 1 0", "create"};
        StringBuilder calls = new StringBuilder(ahead[0]);
        for (int i = 1; i < ahead.length; i++) {
            String before = calls.toString();
            run("The state consists of the stamps, the files with all that belongs to them, the settings, and the numbers "
                + "that total returns: undo of " + ahead[i]).made(before).made(ahead[i]).due("undo", 4).stateIsAsAfter(before);
            calls.append("; ").append(ahead[i]);
        }
    }

    private static void textIsNotOfTheState() {
        run("The text does not change with undo").typed("n").made("create").typed(";m").due("undo", 0).due("count 10", 3)
            .due("fault", NONE).due("perform", 2).made("clearText").due("undo", 0).due("count 10", 0).due("fault", 0);
        run("The text does not change with restore").typed("n").made("save").typed(";q").due("restore", 64)
            .due("count 10", 3).due("fault", 2).made("clearText; restore").due("count 10", 0).due("perform", -100);
    }

    private static void snapshotIsNotOfTheState() {
        run("The snapshot does not change with undo").made("create; save; create; save; undo; undo").due("count 0", 0)
            .due("restore", 64).due("count 0", 2);
        run("a snapshot from ahead of an action is there after its undo").made("save; create; undo; create; create")
            .due("restore", 64).due("count 0", 0);
        run("undo does not take a snapshot back").made("create").made("save").due("undo", 0).due("restore", 64).due("count 0", 1);
    }

    private static void historyIsNotOfTheState() {
        run("the history itself is not part of the state: restore").made("save; create; create; create").due("restore", 64)
            .due("count 9", 4).due("count 0", 0).due("undo", 3).due("count 0", 3).due("undo", 2).due("count 0", 2);
        run("the history itself is not part of the state: a snapshot with 5 states")
            .made("create; create; create; create; create; save; undo; undo; undo; undo; undo").due("count 9", 0)
            .due("restore", 64).due("count 9", 1).due("count 0", 5).due("undo", 0).due("count 0", 0).due("undo", NONE);
    }

    private static void noSnapshot() {
        run("NOT_POSSIBLE if there is no snapshot").dueUnchanged("restore", -4).made("create; open 0; append 0 5 5")
            .dueUnchanged("restore", -4).made("undo; undo; undo").dueUnchanged("restore", -4).due("save", 64)
            .due("restore", 64);
    }

    private static void saveReplaces() {
        run("Takes a snapshot of the state, which replaces the previous snapshot.").made("create; open 0; append 0 5 5; save")
            .made("cut 0 2; save; cut 0 0").due("restore", 62).due("file 0 0", 2).made("undo; undo; undo").due("restore", 62)
            .due("file 0 0", 2).dueUnchanged("count 9", 3);
        run("a snapshot of the state before any file").made("save; create; open 0; append 0 5 5").due("save", 58)
            .made("close 0; remove 0").due("restore", 58).due("file 0 1", 1).due("file 0 3", 1);
    }

    private static void saveOfNothingAndAll() {
        run("Returns the number of free blocks: 64").due("save", 64).due("restore", 64).due("count 9", 1);
        run("Returns the number of free blocks: none").made("create; open 0; append 0 64 1").due("save", 0)
            .made("cut 0 0").due("restore", 0).due("file 0 0", 64).due("undo", 4).due("file 0 0", 0);
        run("Returns the number of free blocks: one").made("create; open 0; append 0 62 1").due("save", 1).due("restore", 1);
        run("save changes nothing but the snapshot").made(START).due("save", 41).isAsAfter(START + "; save");
    }

    private static void snapshotRemains() {
        Run run = run("The snapshot remains.").made("create; open 0; append 0 5 5; save");
        for (int turn = 0; turn < 3; turn++) {
            run.made("append 0 9 9; crash; mend; remove 0").due("count 0", 0).due("restore", 58).due("file 0 0", 5);
            run.due("file 0 1", 1).due("file 0 3", 1).due("file 0 5", 2).due("block 9 3", 0).due("total 0", 5).due("total 3", 0);
        }
        run("actions after restore do not change the snapshot").made("create; save; restore; create; create; remove 0")
            .due("restore", 64).due("count 0", 1).due("file 0 0", 0).due("file 1 0", -1);
        run("undo after restore does not change the snapshot").made("create; save; create; restore; undo").due("count 0", 2)
            .due("restore", 64).due("count 0", 1);
    }

    private static void restoreIsUndone() {
        String before = "create; save; open 0; append 0 9 9; set 0 3; set 1 1";
        run("Restores the state of the snapshot: undone").made(before + "; restore").due("count 9", 5).due("undo", 4)
            .stateIsAsAfter(before);
        run("Restores the state of the snapshot").made("create; open 0; append 0 5 5; set 0 4; set 1 1; save")
            .made("append 0 20 6; sync 0; crash; set 0 9; set 1 0; create; open 1; append 1 30 1; restore")
            .stateIsAsAfter("create; open 0; append 0 5 5; set 0 4; set 1 1");
    }
}
