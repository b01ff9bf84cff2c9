import java.util.ArrayList;
import java.util.List;

/** The edges of the text: "Text" of the terms, and promises 12 to 15. */
final class EdgeTextTest {
    private static final Check CHECK = new Check("EdgeTextTest");
    private static final int NONE = LendingDisk.NONE;
    private static final String LETTERS = "noxdsat!m";
    private static final String DIGITS = "0123456789";
    private static final String FILES = "01234567";

    private static Run run(String sentence) {
        return new Run(CHECK, sentence);
    }

    public static void main(String[] args) {
        characters();
        atMost80();
        empty();
        clear();
        nextCharacters();
        everyNumber();
        faultsOfA80CharacterText();
        anyLength();
        faultIsTheFirst();
        performOfNothing();
        mostOrders();
        firstAndLastOrderRefused();
        eachOrderRefused();
        numbersOfOrders();
        filesOfOrders();
        oneAction();
        textDoesNotChange();
        CHECK.end();
    }

    private static void characters() {
        run("character: 32 to 126")
            .dueUnchanged("type min", -2).dueUnchanged("type -1", -2).dueUnchanged("type 0", -2)
            .dueUnchanged("type 31", -2).dueUnchanged("type 127", -2).dueUnchanged("type 128", -2)
            .dueUnchanged("type 288", -2).dueUnchanged("type max", -2)
            .due("type 32", 1).due("type 33", 2).due("type 125", 3).due("type 126", 4)
            .dueUnchanged("type 31", -2).dueUnchanged("type 127", -2).due("count 10", 4);
        Run all = run("each character");
        for (int character = 32; character <= 126; character++) {
            all.due("type " + character, character <= 111 ? character - 31 : LendingDisk.TOO_MANY);
        }
    }

    private static void atMost80() {
        Run run = run("There is a text of at most 80 characters (empty at first)").due("count 10", 0);
        for (int length = 1; length <= 80; length++) {
            run.due("type 110", length);
        }
        run.dueUnchanged("type 110", -3).dueUnchanged("type 32", -3).dueUnchanged("type 126", -3);
        run.dueUnchanged("type 31", -2).dueUnchanged("type 127", -2).due("count 10", 80).due("clearText", 80);
        run.due("count 10", 0).due("type 110", 1).due("fault", NONE);
        run("a text of 79 characters").typed(script(79)).due("count 10", 79).due("type 59", 80).dueUnchanged("type 59", -3);
    }

    private static void empty() {
        run("the empty text is no complete script").dueUnchanged("fault", 0).dueUnchanged("perform", -100)
            .due("clearText", 0).due("clearText", 0).due("fault", 0).due("count 9", 0)
            .typed("n").due("fault", NONE).due("clearText", 1).dueUnchanged("fault", 0).dueUnchanged("perform", -100);
    }

    private static void clear() {
        run("Empties the text. Returns the length that the text had.").made("create; save").typed("a0:")
            .due("clearText", 3).due("count 10", 0).due("count 9", 1).due("restore", 64).due("count 10", 0)
            .typed("m").due("fault", NONE).due("perform", 1);
    }

    /** The characters with which a script that begins with the text, one whole order or less, goes on. */
    private static String next(String text) {
        if (text.isEmpty()) {
            return LETTERS;
        }
        char letter = text.charAt(0);
        if (letter == 'n' || letter == '!' || letter == 'm') {
            return ";";
        }
        if (text.length() == 1) {
            return FILES;
        }
        if (letter != 'a' && letter != 't') {
            return ";";
        }
        if (text.length() == 2) {
            return ":";
        }
        String end = letter == 'a' && !text.contains("=") ? "=" : ";";
        String number = text.substring(Math.max(text.indexOf(':'), text.indexOf('=')) + 1);
        return inNumber(number, letter == 'a' && end.equals("="), end.equals(";") && letter == 'a', end);
    }

    private static String inNumber(String number, boolean fromOne, boolean isStamp, String end) {
        if (number.isEmpty()) {
            return fromOne ? "123456789" : DIGITS;
        }
        if (number.equals("0") || number.length() == 2) {
            return end;
        }
        char digit = number.charAt(0);
        if (isStamp || digit <= '5') {
            return DIGITS + end;
        }
        return digit == '6' ? "01234" + end : end;
    }

    /** Each beginning of an order, and behind it each character there is, alone and behind other orders. */
    private static void nextCharacters() {
        String[] ahead = {"", "n;", "a7:64=99;t0:0;", script(59) + ";"};
        for (String orders : ahead) {
            for (String text : beginnings()) {
                String goesOn = next(text);
                for (int character = 32; character <= 126; character++) {
                    boolean fits = goesOn.indexOf(character) >= 0;
                    String longer = text + (char) character;
                    faultIs(orders + longer, fits ? faultOf(orders, longer) : orders.length() + text.length());
                }
            }
        }
    }

    /** One file and one number stand for all of them where something else follows. */
    private static List<String> beginnings() {
        List<String> all = new ArrayList<>();
        all.add("");
        for (char letter : LETTERS.toCharArray()) {
            all.add("" + letter);
        }
        for (char letter : "oxdsat".toCharArray()) {
            for (char file : FILES.toCharArray()) {
                all.add("" + letter + file);
            }
        }
        addNumbers(all, "a0:", 1, 64);
        addNumbers(all, "t7:", 0, 64);
        addNumbers(all, "a7:1=", 0, 99);
        addNumbers(all, "a0:64=", 0, 99);
        return all;
    }

    private static void addNumbers(List<String> all, String ahead, int least, int greatest) {
        all.add(ahead);
        for (int number = least; number <= greatest; number++) {
            all.add(ahead + number);
        }
    }

    private static int faultOf(String orders, String text) {
        boolean whole = !text.endsWith(";") && next(text).contains(";");
        return whole ? NONE : orders.length() + text.length();
    }

    private static void faultIs(String text, int want) {
        LendingDisk x = new LendingDisk();
        for (int i = 0; i < text.length(); i++) {
            x.type(text.charAt(i));
        }
        CHECK.due("fault of " + text, want, x.fault());
        if (want != NONE) {
            CHECK.due("perform of " + text, -100 - want, x.perform());
            CHECK.due("states after " + text, 0, x.count(9));
        }
    }

    private static void everyNumber() {
        for (int number = 0; number <= 130; number++) {
            int digits = String.valueOf(number).length();
            int beyond = number > 99 ? 2 : 1;
            // from the first digit on: the index at which the number leaves its range
            faultIs("a0:" + number + "=5", number == 0 ? 3 : number <= 64 ? NONE : 3 + (digits == 3 && number / 10 <= 64 ? 2 : 1));
            faultIs("t0:" + number, number <= 64 ? NONE : 3 + (digits == 3 && number / 10 <= 64 ? 2 : 1));
            faultIs("a0:1=" + number, number <= 99 ? NONE : 5 + beyond);
            faultIs("a0:0" + number + "=5", 3);
            faultIs("t0:0" + number, 4);
            faultIs("a0:1=0" + number, 6);
        }
    }

    /** "!;!;!" with that many characters, which must be odd to be a script. */
    private static String script(int length) {
        StringBuilder text = new StringBuilder();
        for (int i = 0; i < length; i++) {
            text.append(i % 2 == 0 ? '!' : ';');
        }
        return text.toString();
    }

    private static void faultsOfA80CharacterText() {
        run("Returns the fault: the last character there can be").typed(script(79) + "q")
            .dueUnchanged("fault", 79).dueUnchanged("perform", -179);
        run("Returns the fault: the last but one").typed(script(78) + "q;").dueUnchanged("fault", 78)
            .dueUnchanged("perform", -178);
        run("Returns the fault: the first character").typed("q" + script(79)).dueUnchanged("fault", 0)
            .dueUnchanged("perform", -100);
        run("Returns the fault: the second character").typed("nq").dueUnchanged("fault", 1).dueUnchanged("perform", -101);
        run("NONE if the text is a complete script: of 80 characters").typed(script(78) + "o0").due("count 10", 80)
            .dueUnchanged("fault", NONE).dueUnchanged("type 59", -3).due("perform", 39);
    }

    private static void anyLength() {
        String[] ends = {"!;", "!;a", "!;a0", "!;a0:", "!;a0:1", "!;a0:64=", "!;t0:", "!;o"};
        for (String end : ends) {
            int ahead = 80 - end.length();
            String text = ahead % 2 == 0 ? script(ahead) + end : "o0;" + script(ahead - 3) + end;
            run("no script, of any length, begins so; the fault is the length of the text: " + end).typed(text)
                .due("count 10", 80).dueUnchanged("fault", 80).dueUnchanged("perform", -180);
        }
    }

    private static void faultIsTheFirst() {
        run("the index of the first character such that no script begins so: of several").typed("n;q;q;o9")
            .due("fault", 2).due("perform", -102);
        run("a fault ahead of a text that is not complete").typed("n;;o").due("fault", 2);
        run("what is typed behind a fault does not mend it").typed("nn").due("fault", 1).typed(";n").due("fault", 1);
        run("a fault behind a complete script").typed("n").due("fault", NONE).typed(";").due("fault", 2)
            .typed("o").due("fault", 3).typed("3").due("fault", NONE).typed("3").due("fault", 4);
    }

    private static void performOfNothing() {
        run("no order is carried out, but it is an action").typed("o0").due("perform", 0).due("count 9", 1)
            .due("count 0", 0).due("undo", 0);
        run("one order").typed("n").due("perform", 1).due("count 9", 1).due("count 0", 1);
    }

    private static void mostOrders() {
        run("Returns the number of orders that are carried out: the most").typed(script(79)).due("perform", 40)
            .due("count 9", 1).typed(";").due("perform", -180);
        run("Returns the number of orders that are carried out: the most, of 80 characters").made("create")
            .typed(script(78) + "o0").due("perform", 40).due("file 0 3", 1).due("count 9", 2);
        run("up to the first one for which the method would return an error code: the ninth file")
            .typed("n;n;n;n;n;n;n;n;n;o0").due("perform", 8).due("count 0", 8).due("count 1", 0).due("perform", 0)
            .due("count 9", 2).due("undo", 1).due("count 0", 8).due("undo", 0).due("count 0", 0);
    }

    private static void firstAndLastOrderRefused() {
        run("the first order is refused").typed("x0;n;n").due("perform", 0).due("count 0", 0).due("count 9", 1);
        run("the second order is refused").typed("n;x0;n").due("perform", 1).due("count 0", 1).due("count 9", 1);
        run("the last order is refused").typed("n;n;x0").due("perform", 2).due("count 0", 2).due("count 9", 1);
        run("no order is refused").typed("n;n;o0").due("perform", 3).due("count 1", 1).due("count 9", 1);
    }

    private static void eachOrderRefused() {
        String[] orders = {"o7", "o0", "x7", "x1", "d7", "d0", "s7", "s1", "a7:1=1", "a1:1=1", "a0:60=1", "t7:0",
            "t1:0", "t0:6"};
        for (String order : orders) {
            Run run = run("up to the first one for which the method would return an error code: " + order);
            run.made("create; create; open 0; append 0 5 1").typed("m;" + order + ";n;!");
            run.due("perform", 1).due("count 0", 2).due("count 1", 1).due("file 0 0", 5).due("file 0 1", 1);
            run.due("total 0", 5).due("total 3", 0).due("count 9", 5);
        }
    }

    private static void numbersOfOrders() {
        run("the greatest numbers").typed("n;o7;n").due("perform", 1).due("clearText", 6)
            .typed("o0;a0:64=99;t0:64;s0").due("perform", 4).due("file 0 0", 64).due("file 0 2", 64).due("block 63 3", 99)
            .due("total 0", 64);
        run("the least numbers").typed("n;o0;a0:1=0;t0:0").due("perform", 4).due("file 0 0", 0).due("total 0", 1)
            .due("count 2", 64);
        run("numbers of two digits").typed("n;o0;a0:12=34;t0:10;a0:9=8").due("perform", 5).due("file 0 0", 19)
            .due("block 9 3", 34).due("block 10 3", 8).due("block 18 3", 8).due("total 0", 21);
        run("first how many blocks, then the stamp").typed("n;o0;a0:3=60").due("perform", 3).due("file 0 0", 3)
            .due("read 0 0 64 0", 180);
    }

    private static void filesOfOrders() {
        Run run = run("A file is a digit from 0 to 7.").typed("n;n;n;n;n;n;n;n;o0;o7;a7:2=3;a0:1=9;s7;t7:1;x0;d0;d6");
        run.due("perform", 17);
        run.due("count 0", 6).due("file 0 0", -1).due("file 6 0", -1).due("file 7 0", 1).due("file 7 2", 1);
        run.due("file 7 3", 1).due("file 5 0", 0).due("clearText", 52).typed("!;m;n;n;n").due("perform", 4);
        run.due("file 7 3", 0).due("count 0", 8).due("file 0 0", 0).due("file 6 0", 0);
    }

    private static void oneAction() {
        run("This is one action").made("create; open 0").typed("a0:3=1;a0:4=2;n;!;m").due("perform", 5)
            .due("count 9", 3).due("undo", 2).due("count 0", 1).due("file 0 0", 0).due("file 0 3", 1).due("total 0", 0)
            .due("total 1", 0).due("total 3", 0).due("block 0 3", 0).due("count 10", 19);
        run("This is one action: when the history is full").made("create; create; create; create; create").typed("n;n;n;n")
            .due("count 9", 5).due("perform", 3).due("count 9", 5).due("undo", 4).due("count 0", 5)
            .due("undo", 3).due("undo", 2).due("undo", 1).due("undo", 0).due("count 0", 1).due("undo", NONE);
        run("as the methods do")
            .made("create; open 0; append 0 3 1; sync 0; append 0 4 2; cut 0 5; create; open 1; append 1 9 3; close 0")
            .made("crash; mend; remove 1")
            .stateIsAsAfter(Run.typing("n;o0;a0:3=1;s0;a0:4=2;t0:5;n;o1;a1:9=3;x0;!;m;d1") + "; perform");
    }

    private static void textDoesNotChange() {
        run("The text does not change.").typed("n").due("perform", 1).due("perform", 1).due("count 10", 1)
            .due("count 0", 2).due("undo", 1).due("count 10", 1).due("fault", NONE).due("clearText", 1);
        run("The text does not change: where an order is refused").typed("n;x0;q").due("perform", -105).due("count 10", 6)
            .due("fault", 5);
    }
}
