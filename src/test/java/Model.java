import java.util.ArrayList;
import java.util.List;
import java.util.regex.Matcher;
import java.util.regex.Pattern;

/** The document once more, told in lists and patterns, for the comparison with the class. */
final class Model {
    static final int NO_SUCH = -1;
    static final int BAD_VALUE = -2;
    static final int TOO_MANY = -3;
    static final int NOT_POSSIBLE = -4;
    static final int NONE = -5;

    private static final String FILE = "[0-7]";
    private static final String ORDER = "(n|m|!|[oxds]" + FILE
        + "|a" + FILE + ":([1-9]|[1-5][0-9]|6[0-4])=([0-9]|[1-9][0-9])"
        + "|t" + FILE + ":([0-9]|[1-5][0-9]|6[0-4]))";
    private static final Pattern SCRIPT = Pattern.compile(ORDER + "(;" + ORDER + ")*");

    private static final class Holder {
        List<Integer> blocks = new ArrayList<>();
        int size;
        int safe;
        int lend = 1;
        boolean open;

        Holder copy() {
            Holder other = new Holder();
            other.blocks = new ArrayList<>(blocks);
            other.size = size;
            other.safe = safe;
            other.lend = lend;
            other.open = open;
            return other;
        }

        int lent() {
            return blocks.size() - size;
        }

        List<List<Integer>> extents() {
            List<List<Integer>> extents = new ArrayList<>();
            for (int i = 0; i < blocks.size(); i++) {
                if (i == 0 || blocks.get(i) != blocks.get(i - 1) + 1) {
                    extents.add(new ArrayList<>());
                }
                extents.get(extents.size() - 1).add(blocks.get(i));
            }
            return extents;
        }
    }

    private static final class State {
        int[] stamps = new int[64];
        Holder[] files = new Holder[8];
        int most = 8;
        int policy = 0;
        int[] totals = new int[4];

        State copy() {
            State other = new State();
            other.stamps = stamps.clone();
            for (int i = 0; i < 8; i++) {
                other.files[i] = files[i] == null ? null : files[i].copy();
            }
            other.most = most;
            other.policy = policy;
            other.totals = totals.clone();
            return other;
        }

        boolean isFree(int block) {
            for (Holder holder : files) {
                if (holder != null && holder.blocks.contains(block)) {
                    return false;
                }
            }
            return block >= 0 && block < 64;
        }

        List<List<Integer>> runs() {
            List<List<Integer>> runs = new ArrayList<>();
            boolean inRun = false;
            for (int block = 0; block < 64; block++) {
                boolean free = isFree(block);
                if (free && !inRun) {
                    runs.add(new ArrayList<>());
                }
                if (free) {
                    runs.get(runs.size() - 1).add(block);
                }
                inRun = free;
            }
            return runs;
        }

        int free() {
            int free = 0;
            for (List<Integer> run : runs()) {
                free += run.size();
            }
            return free;
        }

        int giveBack(Holder holder) {
            int lent = holder.lent();
            holder.blocks = new ArrayList<>(holder.blocks.subList(0, holder.size));
            holder.lend = 1;
            totals[1] += lent;
            return lent;
        }
    }

    private State state = new State();
    private final List<State> history = new ArrayList<>();
    private State snapshot = null;
    private String text = "";

    private Holder at(int file) {
        return file < 0 || file > 7 ? null : state.files[file];
    }

    private void record(State before) {
        history.add(before);
        if (history.size() > 5) {
            history.remove(0);
        }
    }

    /** One of the actions by its letter in a script, without the history. */
    private int act(char letter, int file, int first, int second) {
        if (letter == 'n') {
            for (int i = 0; i < 8; i++) {
                if (state.files[i] == null) {
                    state.files[i] = new Holder();
                    return i;
                }
            }
            return TOO_MANY;
        }
        if (letter == '!') {
            return crashNow();
        }
        if (letter == 'm') {
            int given = 0;
            for (Holder holder : state.files) {
                given += holder != null && !holder.open ? state.giveBack(holder) : 0;
            }
            return given;
        }
        Holder holder = at(file);
        if (holder == null) {
            return NO_SUCH;
        }
        switch (letter) {
            case 'o':
                if (holder.open) {
                    return NOT_POSSIBLE;
                }
                holder.open = true;
                return count(1);
            case 'd':
                if (holder.open) {
                    return NOT_POSSIBLE;
                }
                state.files[file] = null;
                return holder.blocks.size();
            case 'a':
                return appendNow(holder, first, second);
            case 't':
                if (first < 0 || first > 64) {
                    return BAD_VALUE;
                }
                break;
            default:
                break;
        }
        if (!holder.open) {
            return NOT_POSSIBLE;
        }
        if (letter == 's') {
            int growth = holder.size - holder.safe;
            holder.safe = holder.size;
            return growth;
        }
        if (letter == 'x') {
            holder.safe = holder.size;
            holder.open = false;
            return state.giveBack(holder);
        }
        if (first > holder.size) {
            return NOT_POSSIBLE;
        }
        int freed = state.giveBack(holder) + holder.size - first;
        holder.blocks = new ArrayList<>(holder.blocks.subList(0, first));
        holder.size = first;
        holder.safe = Math.min(holder.safe, first);
        return freed;
    }

    private int crashNow() {
        int lost = 0;
        for (Holder holder : state.files) {
            if (holder != null) {
                lost += holder.size - holder.safe;
                holder.size = holder.safe;
                holder.lend = 1;
                holder.open = false;
            }
        }
        state.totals[3] += lost;
        return lost;
    }

    private int appendNow(Holder holder, int n, int stamp) {
        if (n < 1 || n > 64 || stamp < 0 || stamp > 99) {
            return BAD_VALUE;
        }
        if (!holder.open) {
            return NOT_POSSIBLE;
        }
        int need = n - holder.lent();
        if (need > 0) {
            while (state.free() < need) {
                Holder giver = null;
                for (Holder other : state.files) {
                    if (other != null && other != holder && other.lent() > 0
                            && (giver == null || other.lent() > giver.lent())) {
                        giver = other;
                    }
                }
                if (giver == null) {
                    return NOT_POSSIBLE;
                }
                state.giveBack(giver);
                state.totals[2]++;
            }
            int ask = Math.min(need + Math.min(holder.lend, state.most), state.free());
            addBlocks(holder, ask);
            if (ask > need) {
                holder.lend = Math.min(16, holder.lend * 2);
            }
        }
        for (int i = 0; i < n; i++) {
            state.stamps[holder.blocks.get(holder.size)] = stamp;
            holder.size++;
        }
        state.totals[0] += n;
        return holder.extents().size();
    }

    private void addBlocks(Holder holder, int ask) {
        int added = 0;
        if (!holder.blocks.isEmpty()) {
            int next = holder.blocks.get(holder.blocks.size() - 1) + 1;
            while (added < ask && state.isFree(next)) {
                holder.blocks.add(next++);
                added++;
            }
        }
        while (added < ask) {
            int m = ask - added;
            List<List<Integer>> runs = state.runs();
            runs.sort((a, b) -> {
                boolean fitsA = a.size() >= m;
                boolean fitsB = b.size() >= m;
                if (fitsA != fitsB) {
                    return fitsA ? -1 : 1;
                }
                if (fitsA) {
                    return state.policy == 1 ? 0 : a.size() - b.size();
                }
                return b.size() - a.size();
            });
            for (int block : runs.get(0)) {
                if (added < ask) {
                    holder.blocks.add(block);
                    added++;
                }
            }
        }
    }

    /** One of the actions by its letter in a script, with the history; an error leaves the state. */
    int action(char letter, int file, int first, int second) {
        State before = state.copy();
        int answer = act(letter, file, first, second);
        if (answer < 0) {
            state = before;
        } else {
            record(before);
        }
        return answer;
    }

    int set(int setting, int value) {
        if (setting < 0 || setting > 1) {
            return NO_SUCH;
        }
        if (value < 0 || value > (setting == 0 ? 16 : 1)) {
            return BAD_VALUE;
        }
        record(state.copy());
        int previous = setting == 0 ? state.most : state.policy;
        if (setting == 0) {
            state.most = value;
        } else {
            state.policy = value;
        }
        return previous;
    }

    int type(int character) {
        if (character < 32 || character > 126) {
            return BAD_VALUE;
        }
        if (text.length() == 80) {
            return TOO_MANY;
        }
        text += (char) character;
        return text.length();
    }

    int clearText() {
        int length = text.length();
        text = "";
        return length;
    }

    int fault() {
        if (SCRIPT.matcher(text).matches()) {
            return NONE;
        }
        for (int end = 1; end <= text.length(); end++) {
            Matcher matcher = SCRIPT.matcher(text.substring(0, end));
            if (!matcher.matches() && !matcher.hitEnd()) {
                return end - 1;
            }
        }
        return text.length();
    }

    int perform() {
        if (fault() != NONE) {
            return -100 - fault();
        }
        record(state.copy());
        int carried = 0;
        for (String order : text.split(";")) {
            String[] parts = order.split("[:=]");
            int file = order.length() > 1 ? order.charAt(1) - '0' : 0;
            int first = parts.length > 1 ? Integer.parseInt(parts[1]) : 0;
            int second = parts.length > 2 ? Integer.parseInt(parts[2]) : 0;
            State before = state.copy();
            if (act(order.charAt(0), file, first, second) < 0) {
                state = before;
                break;
            }
            carried++;
        }
        return carried;
    }

    int undo() {
        if (history.isEmpty()) {
            return NONE;
        }
        state = history.remove(history.size() - 1);
        return history.size();
    }

    int save() {
        snapshot = state.copy();
        return state.free();
    }

    int restore() {
        if (snapshot == null) {
            return NOT_POSSIBLE;
        }
        record(state.copy());
        state = snapshot.copy();
        return state.free();
    }

    int block(int block, int what) {
        if (block < 0 || block > 63) {
            return NO_SUCH;
        }
        if (what < 0 || what > 3) {
            return BAD_VALUE;
        }
        if (what == 3) {
            return state.stamps[block];
        }
        for (int file = 0; file < 8; file++) {
            int index = state.files[file] == null ? -1 : state.files[file].blocks.indexOf(block);
            if (index >= 0) {
                return what == 0 ? file : what == 2 ? index : index < state.files[file].size ? 1 : 2;
            }
        }
        return what == 1 ? 0 : NONE;
    }

    int file(int file, int what) {
        Holder holder = at(file);
        if (holder == null) {
            return NO_SUCH;
        }
        switch (what) {
            case 0: return holder.size;
            case 1: return holder.lent();
            case 2: return holder.safe;
            case 3: return holder.open ? 1 : 0;
            case 4: return holder.extents().size();
            case 5: return holder.lend;
            default: return BAD_VALUE;
        }
    }

    private static int ofPart(List<List<Integer>> parts, int part, int what) {
        if (part >= parts.size()) {
            return NONE;
        }
        return what == 0 ? parts.get(part).get(0) : parts.get(part).size();
    }

    int extent(int file, int extent, int what) {
        if (at(file) == null) {
            return NO_SUCH;
        }
        return extent < 0 || what < 0 || what > 1 ? BAD_VALUE : ofPart(at(file).extents(), extent, what);
    }

    int run(int run, int what) {
        return run < 0 || what < 0 || what > 1 ? BAD_VALUE : ofPart(state.runs(), run, what);
    }

    int read(int file, int from, int many, int what) {
        Holder holder = at(file);
        if (holder == null) {
            return NO_SUCH;
        }
        if (from < 0 || from > 63 || many < 1 || many > 64 || what < 0 || what > 1) {
            return BAD_VALUE;
        }
        if (from >= holder.size) {
            return NONE;
        }
        int sum = 0;
        int number = 0;
        for (int i = from; i < from + many && i < holder.size; i++) {
            sum += state.stamps[holder.blocks.get(i)];
            number++;
        }
        return what == 0 ? sum : number;
    }

    int count(int what) {
        int[] counts = new int[11];
        for (Holder holder : state.files) {
            if (holder != null) {
                counts[0]++;
                counts[1] += holder.open ? 1 : 0;
                counts[3] += holder.size;
                counts[4] += holder.lent();
                counts[5] += holder.open ? 0 : holder.lent();
                counts[8] += holder.extents().size();
            }
        }
        counts[2] = state.free();
        counts[6] = state.runs().size();
        for (List<Integer> run : state.runs()) {
            counts[7] = Math.max(counts[7], run.size());
        }
        counts[9] = history.size();
        counts[10] = text.length();
        return what < 0 || what > 10 ? BAD_VALUE : counts[what];
    }

    int total(int what) {
        return what < 0 || what > 3 ? BAD_VALUE : state.totals[what];
    }

    int ifAppended(int file, int blocks, int what) {
        if (at(file) == null) {
            return NO_SUCH;
        }
        if (blocks < 1 || blocks > 64 || what < 0 || what > 2) {
            return BAD_VALUE;
        }
        State before = state.copy();
        int answer = appendNow(at(file), blocks, 0);
        if (answer >= 0 && what > 0) {
            answer = what == 1 ? at(file).lent() : state.free();
        }
        state = before;
        return answer;
    }

    /** By trial: it knows no formula for what fits. */
    int room(int file) {
        if (at(file) == null) {
            return NO_SUCH;
        }
        if (!at(file).open) {
            return NOT_POSSIBLE;
        }
        for (int blocks = 64; blocks > 0; blocks--) {
            if (ifAppended(file, blocks, 0) >= 0) {
                return blocks;
            }
        }
        return 0;
    }

    double wholeness() {
        double files = 0;
        double extents = 0;
        for (Holder holder : state.files) {
            if (holder != null && !holder.blocks.isEmpty()) {
                files++;
                extents += holder.extents().size();
            }
        }
        return extents == 0 ? 1.0 : files / extents;
    }
}
