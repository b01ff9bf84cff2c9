/**
 * A disk of 64 blocks that lends blocks to growing files. Every call answers a number;
 * a negative one other than NONE is an error code, and then nothing has changed.
 */
public final class LendingDisk {
    public static final int NO_SUCH = -1;
    public static final int BAD_VALUE = -2;
    public static final int TOO_MANY = -3;
    public static final int NOT_POSSIBLE = -4;
    public static final int NONE = -5;
    public static final int MOST = 0, POLICY = 1;

    private static final int BLOCKS = 64;
    private static final int FILES = 8;
    private static final int TOP_STAMP = 99;
    private static final int TOP_LEND = 16;
    private static final int STATES = 5;
    private static final int CHARACTERS = 80;
    private static final int FAULT_BASE = -100;

    private final Disk disk = new Disk();
    /** Made once and used again: the state before an action, or the disk as it would be. */
    private final Disk spare = new Disk();
    private final Disk snapshot = new Disk();
    private boolean hasSnapshot = false;
    private final History history = new History();
    private final Script script = new Script();
    private final Order order = new Order();

    public LendingDisk() {
    }

    // ---- files

    public int create() {
        spare.copyFrom(disk);
        return recorded(disk.createFile());
    }

    public int open(int file) {
        spare.copyFrom(disk);
        return recorded(disk.openFile(file));
    }

    public int close(int file) {
        spare.copyFrom(disk);
        return recorded(disk.closeFile(file));
    }

    public int remove(int file) {
        spare.copyFrom(disk);
        return recorded(disk.removeFile(file));
    }

    public int sync(int file) {
        spare.copyFrom(disk);
        return recorded(disk.syncFile(file));
    }

    public int append(int file, int blocks, int stamp) {
        spare.copyFrom(disk);
        return recorded(disk.appendTo(file, blocks, stamp));
    }

    public int cut(int file, int size) {
        spare.copyFrom(disk);
        return recorded(disk.cutFile(file, size));
    }

    // ---- the disk

    public int crash() {
        spare.copyFrom(disk);
        return recorded(disk.crashAll());
    }

    public int mend() {
        spare.copyFrom(disk);
        return recorded(disk.mendAll());
    }

    public int set(int setting, int value) {
        spare.copyFrom(disk);
        return recorded(disk.changeSetting(setting, value));
    }

    // ---- text

    public int type(int character) {
        if (character < 32 || character > 126) {
            return BAD_VALUE;
        }
        return script.addCharacter(character) ? script.length() : TOO_MANY;
    }

    public int clearText() {
        int length = script.length();
        script.empty();
        return length;
    }

    public int fault() {
        return script.firstFault(order);
    }

    public int perform() {
        int fault = script.firstFault(order);
        if (fault != NONE) {
            return FAULT_BASE - fault;
        }
        history.record(disk);
        int carried = 0;
        order.begin();
        for (int i = 0; i < script.length(); i++) {
            if (script.characterAt(i) == ';') {
                if (carryOut() < 0) {
                    return carried;
                }
                carried++;
            }
            order.takes(script.characterAt(i));
        }
        return carryOut() < 0 ? carried : carried + 1;
    }

    // ---- history and snapshot

    public int undo() {
        return history.takeLatest(disk) ? history.size() : NONE;
    }

    public int save() {
        snapshot.copyFrom(disk);
        hasSnapshot = true;
        return disk.freeBlocks();
    }

    public int restore() {
        if (!hasSnapshot) {
            return NOT_POSSIBLE;
        }
        history.record(disk);
        disk.copyFrom(snapshot);
        return disk.freeBlocks();
    }

    // ---- queries; they change nothing

    public int block(int block, int what) {
        if (block < 0 || block >= BLOCKS) {
            return NO_SUCH;
        }
        switch (what) {
            case 0: return disk.ownerOf(block);
            case 1: return disk.useOf(block);
            case 2: return disk.placeOf(block);
            case 3: return disk.stampOf(block);
            default: return BAD_VALUE;
        }
    }

    public int file(int file, int what) {
        if (!disk.isFile(file)) {
            return NO_SUCH;
        }
        switch (what) {
            case 0: return disk.sizeOf(file);
            case 1: return disk.lentOf(file);
            case 2: return disk.safeSizeOf(file);
            case 3: return disk.isOpen(file) ? 1 : 0;
            case 4: return disk.extentsOf(file);
            case 5: return disk.lendOf(file);
            default: return BAD_VALUE;
        }
    }

    public int extent(int file, int extent, int what) {
        if (!disk.isFile(file)) {
            return NO_SUCH;
        }
        if (extent < 0 || what < 0 || what > 1) {
            return BAD_VALUE;
        }
        int place = disk.placeOfExtent(file, extent);
        if (place == NONE) {
            return NONE;
        }
        return what == 0 ? disk.blockAt(file, place) : disk.extentFrom(file, place);
    }

    public int run(int run, int what) {
        if (run < 0 || what < 0 || what > 1) {
            return BAD_VALUE;
        }
        int first = disk.firstOfRun(run);
        if (first == NONE) {
            return NONE;
        }
        return what == 0 ? first : disk.runFrom(first);
    }

    public int read(int file, int from, int many, int what) {
        if (!disk.isFile(file)) {
            return NO_SUCH;
        }
        if (from < 0 || from >= BLOCKS || many < 1 || many > BLOCKS || what < 0 || what > 1) {
            return BAD_VALUE;
        }
        if (from >= disk.sizeOf(file)) {
            return NONE;
        }
        int end = Math.min(from + many, disk.sizeOf(file));
        return what == 0 ? disk.sumOfStamps(file, from, end) : end - from;
    }

    public int count(int what) {
        switch (what) {
            case 0: return disk.filesThatAre(Disk.OPEN) + disk.filesThatAre(Disk.CLOSED);
            case 1: return disk.filesThatAre(Disk.OPEN);
            case 2: return disk.freeBlocks();
            case 3: return disk.dataBlocks();
            case 4: return disk.lentToFilesThatAre(Disk.OPEN) + disk.lentToFilesThatAre(Disk.CLOSED);
            case 5: return disk.lentToFilesThatAre(Disk.CLOSED);
            case 6: return disk.freeRuns();
            case 7: return disk.longestRun();
            case 8: return disk.allExtents();
            case 9: return history.size();
            case 10: return script.length();
            default: return BAD_VALUE;
        }
    }

    public int total(int what) {
        return what >= 0 && what < Disk.TOTALS ? disk.totalOf(what) : BAD_VALUE;
    }

    // ---- what would be; nothing is changed

    public int ifAppended(int file, int blocks, int what) {
        if (!disk.isFile(file)) {
            return NO_SUCH;
        }
        if (what < 0 || what > 2) {
            return BAD_VALUE;
        }
        spare.copyFrom(disk);
        int extents = spare.appendTo(file, blocks, 0);
        if (extents < 0 || what == 0) {
            return extents;
        }
        return what == 1 ? spare.lentOf(file) : spare.freeBlocks();
    }

    public int room(int file) {
        if (!disk.isFile(file)) {
            return NO_SUCH;
        }
        return disk.isOpen(file) ? disk.blocksWithoutData() : NOT_POSSIBLE;
    }

    public double wholeness() {
        int extents = disk.allExtents();
        return extents > 0 ? (double) disk.filesWithBlocks() / (double) extents : 1.0;
    }

    // ---- what the calls above share

    /** Only an action that answers no error code leaves the state before it in the history. */
    private int recorded(int answer) {
        if (answer >= 0) {
            history.record(spare);
        }
        return answer;
    }

    /** Carries out the order that has been read last, as the method of the face would. */
    private int carryOut() {
        int file = order.fileNumber();
        switch (order.letter()) {
            case 'n': return disk.createFile();
            case 'o': return disk.openFile(file);
            case 'x': return disk.closeFile(file);
            case 'd': return disk.removeFile(file);
            case 's': return disk.syncFile(file);
            case 'a': return disk.appendTo(file, order.firstNumber(), order.secondNumber());
            case 't': return disk.cutFile(file, order.firstNumber());
            case '!': return disk.crashAll();
            case 'm': return disk.mendAll();
            default: return NOT_POSSIBLE;
        }
    }

    /** A row of numbers that tests each index itself, so that no caller can reach outside it. */
    private static final class Row {
        private final int[] cells;

        Row(int length, int value) {
            cells = new int[Math.max(length, 0)];
            for (int i = 0; i < cells.length; i++) {
                cells[i] = value;
            }
        }

        int at(int index) {
            return index >= 0 && index < cells.length ? cells[index] : 0;
        }

        /** False outside the row: what is behind either end of the disk is never free. */
        boolean holds(int index, int value) {
            return index >= 0 && index < cells.length && cells[index] == value;
        }

        void put(int index, int value) {
            if (index >= 0 && index < cells.length) {
                cells[index] = value;
            }
        }

        void grow(int index, int by) {
            if (index >= 0 && index < cells.length) {
                cells[index] += by;
            }
        }

        void copyFrom(Row other) {
            for (int i = 0; i < cells.length; i++) {
                cells[i] = other.at(i);
            }
        }
    }

    /** The state: all that the history and the snapshot keep. */
    private static final class Disk {
        static final int ABSENT = 0;
        static final int CLOSED = 1;
        static final int OPEN = 2;

        static final int TOTALS = 4;
        private static final int WRITTEN = 0;
        private static final int GIVEN_BACK = 1;
        private static final int GIVERS = 2;
        private static final int LOST = 3;

        private static final int BEST_FIT = 0;

        private final Row stamps = new Row(BLOCKS, 0);
        /** A sequence is kept by its blocks: to which file each belongs, and where in its sequence. */
        private final Row owners = new Row(BLOCKS, NONE);
        private final Row places = new Row(BLOCKS, NONE);

        private final Row modes = new Row(FILES, ABSENT);
        private final Row lengths = new Row(FILES, 0);
        private final Row sizes = new Row(FILES, 0);
        private final Row safeSizes = new Row(FILES, 0);
        private final Row lends = new Row(FILES, 1);

        private final Row settings = new Row(2, 0);
        private final Row totals = new Row(TOTALS, 0);

        Disk() {
            settings.put(MOST, 8);
            settings.put(POLICY, BEST_FIT);
        }

        void copyFrom(Disk other) {
            stamps.copyFrom(other.stamps);
            owners.copyFrom(other.owners);
            places.copyFrom(other.places);
            modes.copyFrom(other.modes);
            lengths.copyFrom(other.lengths);
            sizes.copyFrom(other.sizes);
            safeSizes.copyFrom(other.safeSizes);
            lends.copyFrom(other.lends);
            settings.copyFrom(other.settings);
            totals.copyFrom(other.totals);
        }

        // ---- actions; each tests all before it changes anything

        int createFile() {
            for (int file = 0; file < FILES; file++) {
                if (modes.holds(file, ABSENT)) {
                    modes.put(file, CLOSED);
                    lengths.put(file, 0);
                    sizes.put(file, 0);
                    safeSizes.put(file, 0);
                    lends.put(file, 1);
                    return file;
                }
            }
            return TOO_MANY;
        }

        int openFile(int file) {
            if (!isFile(file)) {
                return NO_SUCH;
            }
            if (isOpen(file)) {
                return NOT_POSSIBLE;
            }
            modes.put(file, OPEN);
            return filesThatAre(OPEN);
        }

        int closeFile(int file) {
            if (!isFile(file)) {
                return NO_SUCH;
            }
            if (!isOpen(file)) {
                return NOT_POSSIBLE;
            }
            int given = giveBack(file);
            safeSizes.put(file, sizes.at(file));
            modes.put(file, CLOSED);
            return given;
        }

        int removeFile(int file) {
            if (!isFile(file)) {
                return NO_SUCH;
            }
            if (isOpen(file)) {
                return NOT_POSSIBLE;
            }
            int blocks = lengths.at(file);
            freeFrom(file, 0);
            sizes.put(file, 0);
            modes.put(file, ABSENT);
            return blocks;
        }

        int syncFile(int file) {
            if (!isFile(file)) {
                return NO_SUCH;
            }
            if (!isOpen(file)) {
                return NOT_POSSIBLE;
            }
            int growth = sizes.at(file) - safeSizes.at(file);
            safeSizes.put(file, sizes.at(file));
            return growth;
        }

        int appendTo(int file, int blocks, int stamp) {
            if (!isFile(file)) {
                return NO_SUCH;
            }
            if (blocks < 1 || blocks > BLOCKS || stamp < 0 || stamp > TOP_STAMP) {
                return BAD_VALUE;
            }
            if (!isOpen(file) || blocks > blocksWithoutData()) {
                return NOT_POSSIBLE;
            }
            int need = blocks - lentOf(file);
            if (need > 0) {
                takeBack(file, need);
                lengthen(file, need);
            }
            write(file, blocks, stamp);
            return extentsOf(file);
        }

        int cutFile(int file, int size) {
            if (!isFile(file)) {
                return NO_SUCH;
            }
            if (size < 0 || size > BLOCKS) {
                return BAD_VALUE;
            }
            if (!isOpen(file) || size > sizes.at(file)) {
                return NOT_POSSIBLE;
            }
            int freed = lengths.at(file) - size;
            giveBack(file);
            freeFrom(file, size);
            sizes.put(file, size);
            safeSizes.put(file, Math.min(safeSizes.at(file), size));
            return freed;
        }

        int crashAll() {
            int lost = 0;
            for (int file = 0; file < FILES; file++) {
                if (isFile(file)) {
                    lost += sizes.at(file) - safeSizes.at(file);
                    sizes.put(file, safeSizes.at(file));
                    lends.put(file, 1);
                    modes.put(file, CLOSED);
                }
            }
            totals.grow(LOST, lost);
            return lost;
        }

        int mendAll() {
            int given = 0;
            for (int file = 0; file < FILES; file++) {
                if (modes.holds(file, CLOSED)) {
                    given += giveBack(file);
                }
            }
            return given;
        }

        int changeSetting(int setting, int value) {
            if (setting != MOST && setting != POLICY) {
                return NO_SUCH;
            }
            int top = setting == MOST ? TOP_LEND : 1;
            if (value < 0 || value > top) {
                return BAD_VALUE;
            }
            int previous = settings.at(setting);
            settings.put(setting, value);
            return previous;
        }

        // ---- the steps of appending

        /** Each giver is without lent blocks afterwards, so that no more turns than files are due. */
        private void takeBack(int file, int need) {
            for (int turn = 0; turn < FILES && freeBlocks() < need; turn++) {
                int giver = greatestLender(file);
                if (giver == NONE) {
                    return;
                }
                giveBack(giver);
                totals.grow(GIVERS, 1);
            }
        }

        /** The file with the most lent blocks beside the one that is appended to; NONE without any. */
        private int greatestLender(int appended) {
            int greatest = NONE;
            int most = 0;
            for (int file = 0; file < FILES; file++) {
                if (file != appended && lentOf(file) > most) {
                    greatest = file;
                    most = lentOf(file);
                }
            }
            return greatest;
        }

        private void lengthen(int file, int need) {
            int lend = lends.at(file);
            int wish = need + Math.min(lend, settings.at(MOST));
            int ask = Math.min(wish, freeBlocks());
            int missing = ask;
            if (lengths.at(file) > 0) {
                int last = blockAt(file, lengths.at(file) - 1);
                missing -= addFrom(file, last + 1, missing);
            }
            for (int turn = 0; turn < BLOCKS && missing > 0; turn++) {
                missing -= addFrom(file, chosenRun(missing), missing);
            }
            if (ask > need) {
                lends.put(file, Math.min(2 * lend, TOP_LEND));
            }
        }

        /** Adds the free blocks from the first one on, up to the first that is not free. */
        private int addFrom(int file, int first, int most) {
            int added = 0;
            while (added < most && owners.holds(first + added, NONE)) {
                owners.put(first + added, file);
                places.put(first + added, lengths.at(file));
                lengths.grow(file, 1);
                added++;
            }
            return added;
        }

        private int chosenRun(int missing) {
            int chosen = NONE;
            int chosenLength = 0;
            for (int block = 0; block < BLOCKS; block++) {
                int length = runFrom(block);
                if (isBetter(length, chosenLength, missing)) {
                    chosen = block;
                    chosenLength = length;
                }
            }
            return chosen;
        }

        /** Of equal runs the earlier one stays, as they are looked at by their first blocks. */
        private boolean isBetter(int length, int than, int missing) {
            if (than < missing) {
                return length > than;
            }
            return settings.holds(POLICY, BEST_FIT) && length >= missing && length < than;
        }

        private void write(int file, int blocks, int stamp) {
            int from = sizes.at(file);
            for (int block = 0; block < BLOCKS; block++) {
                if (isPart(block, file, from, from + blocks)) {
                    stamps.put(block, stamp);
                }
            }
            sizes.grow(file, blocks);
            totals.grow(WRITTEN, blocks);
        }

        private int giveBack(int file) {
            int given = lentOf(file);
            freeFrom(file, sizes.at(file));
            lends.put(file, 1);
            totals.grow(GIVEN_BACK, given);
            return given;
        }

        private void freeFrom(int file, int length) {
            for (int block = 0; block < BLOCKS; block++) {
                if (owners.holds(block, file) && places.at(block) >= length) {
                    owners.put(block, NONE);
                    places.put(block, NONE);
                }
            }
            lengths.put(file, length);
        }

        // ---- questions about a block

        int ownerOf(int block) {
            return owners.at(block);
        }

        int placeOf(int block) {
            return places.at(block);
        }

        int stampOf(int block) {
            return stamps.at(block);
        }

        int useOf(int block) {
            if (owners.holds(block, NONE)) {
                return 0;
            }
            return places.at(block) < sizes.at(owners.at(block)) ? 1 : 2;
        }

        /** Whether the block stands in the sequence of the file, not before from and before end. */
        private boolean isPart(int block, int file, int from, int end) {
            return owners.holds(block, file) && places.at(block) >= from && places.at(block) < end;
        }

        // ---- questions about a file

        boolean isFile(int file) {
            return modes.holds(file, OPEN) || modes.holds(file, CLOSED);
        }

        boolean isOpen(int file) {
            return modes.holds(file, OPEN);
        }

        int sizeOf(int file) {
            return sizes.at(file);
        }

        int lentOf(int file) {
            return lengths.at(file) - sizes.at(file);
        }

        int safeSizeOf(int file) {
            return safeSizes.at(file);
        }

        int lendOf(int file) {
            return lends.at(file);
        }

        int blockAt(int file, int place) {
            for (int block = 0; block < BLOCKS; block++) {
                if (owners.holds(block, file) && places.holds(block, place)) {
                    return block;
                }
            }
            return NONE;
        }

        int extentsOf(int file) {
            int extents = 0;
            for (int block = 0; block < BLOCKS; block++) {
                if (owners.holds(block, file) && beginsExtent(block)) {
                    extents++;
                }
            }
            return extents;
        }

        private boolean beginsExtent(int block) {
            return !owners.holds(block - 1, owners.at(block))
                    || !places.holds(block - 1, places.at(block) - 1);
        }

        /** The place in the sequence of the file at which its extent begins; NONE without it. */
        int placeOfExtent(int file, int extent) {
            int extents = 0;
            for (int place = 0; place < lengths.at(file); place++) {
                if (beginsExtent(blockAt(file, place))) {
                    if (extents == extent) {
                        return place;
                    }
                    extents++;
                }
            }
            return NONE;
        }

        /** The number of blocks of the extent that begins at the place. */
        int extentFrom(int file, int place) {
            int end = place + 1;
            while (end < lengths.at(file) && !beginsExtent(blockAt(file, end))) {
                end++;
            }
            return end - place;
        }

        int sumOfStamps(int file, int from, int end) {
            int sum = 0;
            for (int block = 0; block < BLOCKS; block++) {
                if (isPart(block, file, from, end)) {
                    sum += stamps.at(block);
                }
            }
            return sum;
        }

        // ---- questions about free runs

        /** The length of the free run that begins with the block; 0 if none begins there. */
        int runFrom(int block) {
            if (owners.holds(block - 1, NONE)) {
                return 0;
            }
            int length = 0;
            while (length < BLOCKS && owners.holds(block + length, NONE)) {
                length++;
            }
            return length;
        }

        /** The first block of the free run with this number; NONE without it. */
        int firstOfRun(int run) {
            int runs = 0;
            for (int block = 0; block < BLOCKS; block++) {
                if (runFrom(block) > 0) {
                    if (runs == run) {
                        return block;
                    }
                    runs++;
                }
            }
            return NONE;
        }

        int freeRuns() {
            int runs = 0;
            for (int block = 0; block < BLOCKS; block++) {
                if (runFrom(block) > 0) {
                    runs++;
                }
            }
            return runs;
        }

        int longestRun() {
            int longest = 0;
            for (int block = 0; block < BLOCKS; block++) {
                longest = Math.max(longest, runFrom(block));
            }
            return longest;
        }

        // ---- questions about the whole disk

        int totalOf(int what) {
            return totals.at(what);
        }

        int freeBlocks() {
            int free = 0;
            for (int block = 0; block < BLOCKS; block++) {
                if (owners.holds(block, NONE)) {
                    free++;
                }
            }
            return free;
        }

        int dataBlocks() {
            int data = 0;
            for (int file = 0; file < FILES; file++) {
                data += sizes.at(file);
            }
            return data;
        }

        /** All of these can be appended to any open file: its own lent ones, free ones, and those of others. */
        int blocksWithoutData() {
            return BLOCKS - dataBlocks();
        }

        int filesThatAre(int mode) {
            int files = 0;
            for (int file = 0; file < FILES; file++) {
                if (modes.holds(file, mode)) {
                    files++;
                }
            }
            return files;
        }

        int lentToFilesThatAre(int mode) {
            int lent = 0;
            for (int file = 0; file < FILES; file++) {
                if (modes.holds(file, mode)) {
                    lent += lentOf(file);
                }
            }
            return lent;
        }

        int filesWithBlocks() {
            int files = 0;
            for (int file = 0; file < FILES; file++) {
                if (lengths.at(file) > 0) {
                    files++;
                }
            }
            return files;
        }

        int allExtents() {
            int extents = 0;
            for (int file = 0; file < FILES; file++) {
                extents += extentsOf(file);
            }
            return extents;
        }
    }

    /** The states that can be come back to, in a ring, so that none is made anew. */
    private static final class History {
        private final Disk[] slots = new Disk[STATES];
        private int oldest = 0;
        private int size = 0;

        History() {
            for (int i = 0; i < slots.length; i++) {
                slots[i] = new Disk();
            }
        }

        int size() {
            return size;
        }

        void record(Disk state) {
            if (size == STATES) {
                oldest = (oldest + 1) % STATES;
                size--;
            }
            Disk slot = slotBehind(size);
            if (slot != null) {
                slot.copyFrom(state);
                size++;
            }
        }

        /** Puts the latest state into the target and forgets it; false if there is none. */
        boolean takeLatest(Disk target) {
            Disk slot = size > 0 ? slotBehind(size - 1) : null;
            if (slot == null) {
                return false;
            }
            target.copyFrom(slot);
            size--;
            return true;
        }

        private Disk slotBehind(int steps) {
            int index = (oldest + steps) % STATES;
            return index >= 0 && index < slots.length ? slots[index] : null;
        }
    }

    /** The text that is typed. */
    private static final class Script {
        private final Row characters = new Row(CHARACTERS, 0);
        private int length = 0;

        int length() {
            return length;
        }

        int characterAt(int index) {
            return characters.at(index);
        }

        boolean addCharacter(int character) {
            if (length >= CHARACTERS) {
                return false;
            }
            characters.put(length, character);
            length++;
            return true;
        }

        void empty() {
            length = 0;
        }

        int firstFault(Order order) {
            order.begin();
            for (int i = 0; i < length; i++) {
                if (!order.takes(characters.at(i))) {
                    return i;
                }
            }
            return order.isWhole() ? NONE : length;
        }
    }

    /** Reads orders a character at a time, and refuses the first one with which no script goes on. */
    private static final class Order {
        private static final int AT_LETTER = 0;
        private static final int AT_FILE = 1;
        private static final int AT_COLON = 2;
        private static final int AT_FIRST = 3;
        private static final int IN_FIRST = 4;
        private static final int AT_SECOND = 5;
        private static final int IN_SECOND = 6;
        private static final int AT_END = 7;

        private int step = AT_LETTER;
        private int letter = 0;
        private int file = 0;
        private int first = 0;
        private int second = 0;

        int letter() {
            return letter;
        }

        int fileNumber() {
            return file;
        }

        int firstNumber() {
            return first;
        }

        int secondNumber() {
            return second;
        }

        void begin() {
            step = AT_LETTER;
        }

        /** Whether a script may end here. */
        boolean isWhole() {
            return step == AT_END || step == IN_SECOND || step == IN_FIRST && letter == 't';
        }

        boolean takes(int character) {
            if (character == ';') {
                boolean ends = isWhole();
                step = ends ? AT_LETTER : step;
                return ends;
            }
            switch (step) {
                case AT_LETTER: return takesLetter(character);
                case AT_FILE: return takesFile(character);
                case AT_COLON: return takesMark(character, ':', AT_FIRST);
                case AT_FIRST: return takesFirst(character);
                case IN_FIRST: return takesMoreOfFirst(character);
                case AT_SECOND: return takesSecond(character);
                case IN_SECOND: return takesMoreOfSecond(character);
                default: return false;
            }
        }

        private boolean takesLetter(int character) {
            letter = character;
            switch (character) {
                case 'n': case '!': case 'm':
                    step = AT_END;
                    return true;
                case 'o': case 'x': case 'd': case 's': case 'a': case 't':
                    step = AT_FILE;
                    return true;
                default:
                    return false;
            }
        }

        private boolean takesFile(int character) {
            file = character - '0';
            step = letter == 'a' || letter == 't' ? AT_COLON : AT_END;
            return file >= 0 && file < FILES;
        }

        private boolean takesMark(int character, int mark, int next) {
            step = next;
            return character == mark;
        }

        private boolean takesFirst(int character) {
            first = character - '0';
            step = IN_FIRST;
            int least = letter == 'a' ? 1 : 0;
            return first >= least && first <= 9;
        }

        private boolean takesMoreOfFirst(int character) {
            if (letter == 'a' && character == '=') {
                return takesMark(character, '=', AT_SECOND);
            }
            boolean more = isMore(first, character, BLOCKS);
            first = 10 * first + character - '0';
            return more;
        }

        private boolean takesSecond(int character) {
            second = character - '0';
            step = IN_SECOND;
            return second >= 0 && second <= 9;
        }

        private boolean takesMoreOfSecond(int character) {
            boolean more = isMore(second, character, TOP_STAMP);
            second = 10 * second + character - '0';
            return more;
        }

        /** A zero that begins a number is its only digit, so nothing can be added to it. */
        private static boolean isMore(int number, int character, int top) {
            int digit = character - '0';
            return digit >= 0 && digit <= 9 && number > 0 && 10 * number + digit <= top;
        }
    }
}
