/** Compares answers with those that are due, and ends the program with 1 if one was wrong. */
final class Check {
    private final String name;
    private int right = 0;
    private int wrong = 0;

    Check(String name) {
        this.name = name;
    }

    void due(String call, double want, double got) {
        if (got == want) {
            right++;
            return;
        }
        wrong++;
        if (wrong <= 50) {
            System.out.println(name + ": " + call + " answered " + got + ", due is " + want);
        }
    }

    boolean hasFailed() {
        return wrong > 0;
    }

    void end() {
        System.out.println(name + ": " + right + " answers as due, " + wrong + " not");
        if (wrong > 0) {
            System.exit(1);
        }
    }

    /** Puts the text in the place of what was typed before. */
    static void typeAll(LendingDisk x, String text) {
        x.clearText();
        for (int i = 0; i < text.length(); i++) {
            x.type(text.charAt(i));
        }
    }

    /** An object that has carried out all orders of the scripts, each of them one action. */
    static LendingDisk after(String... scripts) {
        LendingDisk x = new LendingDisk();
        for (String script : scripts) {
            typeAll(x, script);
            if (x.perform() != script.split(";").length) {
                throw new IllegalArgumentException(script);
            }
        }
        x.clearText();
        return x;
    }
}
