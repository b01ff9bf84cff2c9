/** Promises 26 to 28: ifAppended, room, wholeness. */
final class WouldBeTest {
    private static final Check CHECK = new Check("WouldBeTest");

    private static void due(String call, int want, int got) {
        CHECK.due(call, want, got);
    }

    public static void main(String[] args) {
        ifAppended();
        ifAppendedWithTakingBack();
        ifAppendedErrors();
        ifAppendedIsAsAppend();
        room();
        roomErrors();
        wholeness();
        CHECK.end();
    }

    private static void ifAppended() {
        LendingDisk x = Check.after("n;n;o0;o1;a0:3=1;a1:2=2");
        // 0 to 3 of file 0, 4 to 6 of file 1, each with one lent
        due("extents within the lent ones", 1, x.ifAppended(0, 1, 0));
        due("lent then", 0, x.ifAppended(0, 1, 1));
        due("free then", 57, x.ifAppended(0, 1, 2));
        due("extents", 2, x.ifAppended(0, 4, 0));
        due("lent", 2, x.ifAppended(0, 4, 1));
        due("free", 52, x.ifAppended(0, 4, 2));
        due("extents of the last", 1, x.ifAppended(1, 4, 0));
        due("size stays", 3, x.file(0, 0));
        due("lent stays", 1, x.file(0, 1));
        due("lend stays", 2, x.file(0, 5));
        due("stamp stays", 0, x.block(3, 3));
        due("written stays", 5, x.total(0));
        due("free stays", 57, x.count(2));
        due("states stay", 1, x.count(9));
    }

    private static void ifAppendedWithTakingBack() {
        LendingDisk x = Check.after("n;n;o0;o1;a0:40=1;a1:20=2");
        due("free before", 2, x.count(2));
        due("free then", 0, x.ifAppended(1, 4, 2));
        due("extents then: 41 to 63, and 40", 2, x.ifAppended(1, 4, 0));
        due("lent then", 0, x.ifAppended(1, 4, 1));
        due("the other file keeps its lent block", 1, x.file(0, 1));
        due("no file gave", 0, x.total(2));
        due("nothing was given back", 0, x.total(1));
        due("too many", LendingDisk.NOT_POSSIBLE, x.ifAppended(1, 5, 0));
    }

    private static void ifAppendedErrors() {
        LendingDisk x = new LendingDisk();
        due("no such file ahead of bad values", LendingDisk.NO_SUCH, x.ifAppended(0, 0, 3));
        due("file -1", LendingDisk.NO_SUCH, x.ifAppended(-1, 1, 0));
        due("file 8", LendingDisk.NO_SUCH, x.ifAppended(8, 1, 0));
        x.create();
        due("bad blocks ahead of closed", LendingDisk.BAD_VALUE, x.ifAppended(0, 0, 0));
        due("bad what ahead of closed", LendingDisk.BAD_VALUE, x.ifAppended(0, 1, 3));
        for (int what = 0; what < 3; what++) {
            due("closed", LendingDisk.NOT_POSSIBLE, x.ifAppended(0, 1, what));
        }
        x.open(0);
        due("65 blocks", LendingDisk.BAD_VALUE, x.ifAppended(0, 65, 0));
        due("what -1", LendingDisk.BAD_VALUE, x.ifAppended(0, 1, -1));
        due("what 3", LendingDisk.BAD_VALUE, x.ifAppended(0, 64, 3));
        due("64 blocks", 0, x.ifAppended(0, 64, 2));
        x.append(0, 1, 0);
        for (int what = 0; what < 3; what++) {
            due("too few blocks", LendingDisk.NOT_POSSIBLE, x.ifAppended(0, 64, what));
        }
    }

    private static void ifAppendedIsAsAppend() {
        for (int blocks = 1; blocks <= 64; blocks++) {
            LendingDisk x = Check.after("n;n;n;o0;o1;o2;a0:5=1;a1:5=2;a2:5=3;x1;d1;a0:3=4;a2:9=5");
            int extents = x.ifAppended(0, blocks, 0);
            int lent = x.ifAppended(0, blocks, 1);
            int free = x.ifAppended(0, blocks, 2);
            boolean possible = blocks <= x.room(0);
            due("append " + blocks, extents, x.append(0, blocks, 6));
            due("possible " + blocks, possible ? 1 : 0, extents > 0 ? 1 : 0);
            due("lent " + blocks, lent, possible ? x.file(0, 1) : LendingDisk.NOT_POSSIBLE);
            due("free " + blocks, free, possible ? x.count(2) : LendingDisk.NOT_POSSIBLE);
        }
    }

    private static void room() {
        LendingDisk x = new LendingDisk();
        x.create();
        x.create();
        x.open(0);
        due("room of an empty disk", 64, x.room(0));
        x.append(0, 10, 1);
        due("its own lent block counts", 54, x.room(0));
        x.open(1);
        due("that of another, too", 54, x.room(1));
        x.append(1, 20, 1);
        due("room then", 34, x.room(0));
        x.crash();
        x.open(1);
        due("what closed files have been lent", 64, x.room(1));
        x.append(1, 64, 1);
        due("no room", 0, x.room(1));
        due("states", 5, x.count(9));
    }

    private static void roomErrors() {
        LendingDisk x = new LendingDisk();
        due("no such file", LendingDisk.NO_SUCH, x.room(0));
        due("file -1", LendingDisk.NO_SUCH, x.room(-1));
        due("file 8", LendingDisk.NO_SUCH, x.room(8));
        x.create();
        due("closed", LendingDisk.NOT_POSSIBLE, x.room(0));
        x.open(0);
        x.append(0, 64, 1);
        x.close(0);
        due("closed and full", LendingDisk.NOT_POSSIBLE, x.room(0));
    }

    private static void wholeness() {
        LendingDisk x = new LendingDisk();
        CHECK.due("wholeness of an empty disk", 1.0, x.wholeness());
        x.create();
        x.create();
        x.create();
        CHECK.due("wholeness of files without blocks", 1.0, x.wholeness());
        x.open(0);
        x.open(1);
        x.append(0, 3, 1);
        CHECK.due("wholeness of one extent", 1.0, x.wholeness());
        x.append(1, 3, 1);
        CHECK.due("wholeness of one extent each", 1.0, x.wholeness());
        x.append(0, 3, 1);
        CHECK.due("wholeness of three extents of two files", 2.0 / 3.0, x.wholeness());
        x.append(1, 5, 1);
        CHECK.due("wholeness of four extents", 0.5, x.wholeness());
        x.cut(1, 0);
        CHECK.due("wholeness of two extents of one file", 0.5, x.wholeness());
        x.crash();
        CHECK.due("lent blocks count", 0.5, x.wholeness());
        x.mend();
        CHECK.due("wholeness without blocks", 1.0, x.wholeness());
        due("states", 5, x.count(9));
        LendingDisk y = new LendingDisk();
        y.set(LendingDisk.MOST, 0);
        Check.typeAll(y, "n;n;o0;o1;a0:1=1;a1:1=1;a0:1=1");
        due("perform", 7, y.perform());
        CHECK.due("wholeness with a file of one block", 2.0 / 3.0, y.wholeness());
    }
}
