/** Promises 12 to 15: type, clearText, fault, perform. */
final class TextTest {
    private static final Check CHECK = new Check("TextTest");

    private static void due(String call, int want, int got) {
        CHECK.due(call, want, got);
    }

    public static void main(String[] args) {
        type();
        clearText();
        faultOfCompleteScripts();
        faultOfBeginnings();
        faultOfWrongCharacters();
        everyFirstCharacter();
        performsEachOrder();
        performStopsAtAnError();
        performIsOneAction();
        performWithAFault();
        CHECK.end();
    }

    private static void type() {
        LendingDisk x = new LendingDisk();
        due("type 31", LendingDisk.BAD_VALUE, x.type(31));
        due("type 127", LendingDisk.BAD_VALUE, x.type(127));
        due("type -1", LendingDisk.BAD_VALUE, x.type(-1));
        due("type an extreme", LendingDisk.BAD_VALUE, x.type(Integer.MIN_VALUE));
        due("type 65536 + 'n'", LendingDisk.BAD_VALUE, x.type(65536 + 'n'));
        due("type 32", 1, x.type(32));
        due("type 126", 2, x.type(126));
        for (int length = 3; length <= 80; length++) {
            due("type", length, x.type('n'));
        }
        due("the text is full", LendingDisk.TOO_MANY, x.type('n'));
        due("bad value ahead of full", LendingDisk.BAD_VALUE, x.type(31));
        due("length", 80, x.count(10));
        due("typing is no action", 0, x.count(9));
    }

    private static void clearText() {
        LendingDisk x = new LendingDisk();
        due("clear an empty text", 0, x.clearText());
        x.type('n');
        x.type(';');
        due("clear", 2, x.clearText());
        due("length", 0, x.count(10));
        due("fault", 0, x.fault());
        due("type", 1, x.type('m'));
        due("nothing of before is there", LendingDisk.NONE, x.fault());
        due("clearing is no action", 0, x.count(9));
    }

    private static void faultIs(String text, int want) {
        LendingDisk x = new LendingDisk();
        Check.typeAll(x, text);
        due("fault of " + text, want, x.fault());
        due("length stays", text.length(), x.count(10));
        if (want != LendingDisk.NONE) {
            due("perform of " + text, -100 - want, x.perform());
            due("states after " + text, 0, x.count(9));
        }
    }

    private static void faultOfCompleteScripts() {
        String[] whole = {"n", "m", "!", "o0", "x7", "d3", "s5", "a0:1=0", "a7:64=99", "a1:9=9", "a2:10=10",
            "t0:0", "t7:64", "t1:9", "t2:59", "n;n", "n;o0;a0:5=7;t0:3;s0;x0;d0;m;!", "a3:60=9;n", "t4:60;n"};
        for (String text : whole) {
            faultIs(text, LendingDisk.NONE);
        }
    }

    private static void faultOfBeginnings() {
        String[] begun = {"", "o", "x", "d", "s", "a", "t", "a0", "t0", "a0:", "t0:", "a0:1", "a0:12", "a0:64",
            "a0:1=", "n;", "a0:1=1;", "t0:0;", "n;o", "n;a7:64"};
        for (String text : begun) {
            faultIs(text, text.length());
        }
    }

    private static void faultOfWrongCharacters() {
        faultIs("N", 0);
        faultIs(" n", 0);
        faultIs("n ", 1);
        faultIs("nn", 1);
        faultIs(";", 0);
        faultIs("n;;", 2);
        faultIs("n,n", 1);
        faultIs("n1", 1);
        faultIs("!m", 1);
        faultIs("o8", 1);
        faultIs("o/", 1);
        faultIs("o:", 1);
        faultIs("o;", 1);
        faultIs("oo", 1);
        faultIs("o01", 2);
        faultIs("o0:", 2);
        faultIs("a8", 1);
        faultIs("a0;", 2);
        faultIs("a01", 2);
        faultIs("a0=", 2);
        faultIs("a0:0", 3);
        faultIs("a0:=", 3);
        faultIs("a0:;", 3);
        faultIs("a0:65", 4);
        faultIs("a0:70", 4);
        faultIs("a0:640", 5);
        faultIs("a0:111", 5);
        faultIs("a0:5;", 4);
        faultIs("a0:5:", 4);
        faultIs("a0:5=;", 5);
        faultIs("a0:5==", 5);
        faultIs("a0:5=00", 6);
        faultIs("a0:5=01", 6);
        faultIs("a0:5=99=", 7);
        faultIs("a0:5=100", 7);
        faultIs("a0:5=999", 7);
        faultIs("a0:5=9:", 6);
        faultIs("t0;", 2);
        faultIs("t0=", 2);
        faultIs("t0:;", 3);
        faultIs("t0:00", 4);
        faultIs("t0:01", 4);
        faultIs("t0:65", 4);
        faultIs("t0:99", 4);
        faultIs("t0:100", 5);
        faultIs("t0:5=", 4);
        faultIs("t0:-", 3);
        faultIs("n;q;n", 2);
        faultIs("n;o9;q", 3);
    }

    private static void everyFirstCharacter() {
        for (int character = 32; character <= 126; character++) {
            LendingDisk x = new LendingDisk();
            x.type(character);
            int want = "n!m".indexOf(character) >= 0 ? LendingDisk.NONE : "oxdsat".indexOf(character) >= 0 ? 1 : 0;
            due("fault of the character " + character, want, x.fault());
            LendingDisk y = new LendingDisk();
            Check.typeAll(y, "n;o0;a0:3=1;");
            y.type(character);
            due("fault behind of " + character, want == LendingDisk.NONE ? want : 12 + want, y.fault());
        }
    }

    private static void performsEachOrder() {
        LendingDisk x = new LendingDisk();
        Check.typeAll(x, "n;n;n;o0;o1;o2;a0:10=42;a1:5=7;s0;t0:4;x1;a0:2=99;d1");
        due("fault", LendingDisk.NONE, x.fault());
        due("perform", 13, x.perform());
        due("text stays", 52, x.count(10));
        due("files", 2, x.count(0));
        due("1 is removed", LendingDisk.NO_SUCH, x.file(1, 0));
        due("2 is open", 1, x.file(2, 3));
        due("size", 6, x.file(0, 0));
        due("safe", 4, x.file(0, 2));
        due("sum", 4 * 42 + 2 * 99, x.read(0, 0, 64, 0));
        due("written", 17, x.total(0));
        Check.typeAll(x, "!");
        due("perform !", 1, x.perform());
        due("lost", 2, x.total(3));
        due("closed", 0, x.count(1));
        Check.typeAll(x, "m");
        due("perform m", 1, x.perform());
        due("mended", 0, x.count(4));
        Check.typeAll(x, "o0;t0:0;x0;d0;d2");
        due("perform to the end", 5, x.perform());
        due("no files", 0, x.count(0));
        Check.typeAll(x, "n;o0;a0:64=0;t0:64;t0:10;s0");
        due("perform with greatest numbers", 6, x.perform());
        due("safe size", 10, x.file(0, 2));
    }

    private static void performStopsAtAnError() {
        String[] scripts = {"n;o1;n", "n;o0;o0;n", "n;x0;n", "n;o0;d0;n", "n;s0;n", "n;a0:1=1;n", "n;o0;t0:1;n",
            "n;o0;a0:64=1;a0:1=1;n", "o0", "x3;n", "d1", "s7", "a0:1=1", "t0:0", "n;n;n;n;n;n;n;n;n"};
        int[] carried = {1, 2, 1, 2, 1, 1, 2, 3, 0, 0, 0, 0, 0, 0, 8};
        for (int i = 0; i < scripts.length; i++) {
            LendingDisk x = new LendingDisk();
            Check.typeAll(x, scripts[i]);
            due("perform " + scripts[i], carried[i], x.perform());
            due("files after " + scripts[i], scripts[i].startsWith("n;n;") ? 8 : carried[i] > 0 ? 1 : 0, x.count(0));
            due("one state after " + scripts[i], 1, x.count(9));
        }
    }

    private static void performIsOneAction() {
        LendingDisk x = new LendingDisk();
        x.set(LendingDisk.MOST, 2);
        Check.typeAll(x, "n;n;o0;a0:5=5");
        due("perform", 4, x.perform());
        due("states", 2, x.count(9));
        due("undo", 1, x.undo());
        due("all orders are undone", 0, x.count(0));
        due("stamps, too", 0, x.block(0, 3));
        due("the text is not", 13, x.count(10));
        due("perform again", 4, x.perform());
        due("perform on top", 2, x.perform());
        due("0 was open already", 4, x.count(0));
        due("states then", 3, x.count(9));
    }

    private static void performWithAFault() {
        LendingDisk x = new LendingDisk();
        due("perform without a text", -100, x.perform());
        Check.typeAll(x, "n;n;q");
        due("perform", -104, x.perform());
        due("no order is carried out", 0, x.count(0));
        due("no state", 0, x.count(9));
        StringBuilder longest = new StringBuilder("a0:1=1");
        while (longest.length() < 80) {
            longest.append(longest.length() < 79 ? ";!" : ";");
        }
        Check.typeAll(x, longest.substring(0, 80));
        due("length", 80, x.count(10));
        due("fault at the end", LendingDisk.NONE, x.fault());
        Check.typeAll(x, longest.substring(0, 79));
        due("fault behind a semicolon", 79, x.fault());
        due("perform then", -179, x.perform());
        Check.typeAll(x, longest.substring(0, 79) + "a");
        due("fault of a full text", 80, x.fault());
        due("perform of a full text", -180, x.perform());
    }
}
