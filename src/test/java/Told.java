/**
 * An object whose calls are told as texts: "append 0 3 7" is append(0, 3, 7), "min" and "max" are the
 * extremes of int. It makes no more calls than the document speaks of.
 */
final class Told {
    private static final int CALLS = 512;

    private final LendingDisk x = new LendingDisk();
    private int calls = 0;

    double answer(String call) {
        calls++;
        if (calls > CALLS) {
            throw new IllegalStateException("a call behind the last promised one: " + call);
        }
        String[] words = call.trim().split(" ");
        int[] n = new int[4];
        for (int i = 1; i < words.length; i++) {
            n[i - 1] = number(words[i]);
        }
        String face = words[0] + "/" + (words.length - 1);
        return "wholeness/0".equals(face) ? x.wholeness() : whole(face, n);
    }

    private static int number(String word) {
        if (word.equals("min")) {
            return Integer.MIN_VALUE;
        }
        return word.equals("max") ? Integer.MAX_VALUE : Integer.parseInt(word);
    }

    private int whole(String face, int[] n) {
        switch (face) {
            case "create/0": return x.create();
            case "open/1": return x.open(n[0]);
            case "close/1": return x.close(n[0]);
            case "remove/1": return x.remove(n[0]);
            case "sync/1": return x.sync(n[0]);
            case "append/3": return x.append(n[0], n[1], n[2]);
            case "cut/2": return x.cut(n[0], n[1]);
            case "crash/0": return x.crash();
            case "mend/0": return x.mend();
            case "set/2": return x.set(n[0], n[1]);
            case "type/1": return x.type(n[0]);
            case "clearText/0": return x.clearText();
            case "fault/0": return x.fault();
            case "perform/0": return x.perform();
            case "undo/0": return x.undo();
            case "save/0": return x.save();
            case "restore/0": return x.restore();
            case "block/2": return x.block(n[0], n[1]);
            case "file/2": return x.file(n[0], n[1]);
            case "extent/3": return x.extent(n[0], n[1], n[2]);
            case "run/2": return x.run(n[0], n[1]);
            case "read/4": return x.read(n[0], n[1], n[2], n[3]);
            case "count/1": return x.count(n[0]);
            case "total/1": return x.total(n[0]);
            case "ifAppended/3": return x.ifAppended(n[0], n[1], n[2]);
            case "room/1": return x.room(n[0]);
            default: throw new IllegalArgumentException("no such call: " + face);
        }
    }
}
