/**
 * An explorer of a store: folders, files with several names, blocks that files share, snapshots,
 * marks, and what would be freed if some of it went.
 *
 * <p>Sets of files and sets of blocks are held as the bits of a long, sets of folders as the bits
 * of an int: the document's limits keep each of them small enough.
 */
public final class RoomGone {
    public static final int NONE = -1;

    private static final int LAST_DAY = 5000;
    private static final int LONGEST_GO = 500;
    private static final int BLOCKS = 60;
    private static final int PLACES = 60;
    private static final int PEOPLE = 6;
    private static final int WORTHS = 1000;
    private static final int MOST_FOLDERS = 30;
    private static final int MOST_FILES = 40;
    private static final int MOST_NAMES = 100;
    private static final int MOST_SNAPSHOTS = 8;
    private static final int MOST_MARKS = 20;
    private static final int MOST_PLANNED = 12;
    private static final int ROOT = 0;
    private static final int HOLE = NONE;
    private static final int NO_GROWTH_TOLD = -2147483648;
    private static final long EVERY_FILE = -1L;

    private final Folders folders;
    private final Files files;
    private final Names names;
    private final Snapshots snapshots;
    private final Marks marks;
    private final Planner planner;
    private int today;
    private int capacity;

    public RoomGone() {
        folders = new Folders();
        files = new Files();
        names = new Names();
        snapshots = new Snapshots();
        marks = new Marks();
        planner = new Planner();
        today = 0;
        capacity = BLOCKS;
    }

    public int go(int n) {
        if (n < 0 || n > LONGEST_GO) {
            return NONE;
        }
        today = Math.min(today + n, LAST_DAY);
        return today;
    }

    public int folder(int in, int owner, boolean hidden) {
        if (!folders.has(in) || !isPerson(owner)) {
            return NONE;
        }
        return folders.add(in, owner, hidden);
    }

    public boolean move(int folder, int to) {
        if (!folders.has(folder) || !folders.has(to) || folder == ROOT) {
            return false;
        }
        if (folders.isInTree(to, folder)) {
            return false;
        }
        folders.putIn(folder, to);
        return true;
    }

    public int file(int in, int owner, int worth) {
        if (!folders.has(in) || !isPerson(owner) || worth < 0 || worth >= WORTHS) {
            return NONE;
        }
        if (!canTakeFile()) {
            return NONE;
        }
        return names.add(files.add(new StoredFile(owner, worth, today)), in);
    }

    public int copy(int name, int in) {
        StoredFile original = files.find(names.fileOf(name));
        if (original == null || !folders.has(in) || !canTakeFile()) {
            return NONE;
        }
        return names.add(files.add(original.duplicate(today)), in);
    }

    public int link(int file, int in) {
        if (files.find(file) == null || !folders.has(in)) {
            return NONE;
        }
        return names.add(file, in);
    }

    public boolean unlink(int name) {
        int file = names.fileOf(name);
        if (file == NONE) {
            return false;
        }
        names.remove(name);
        if (names.countOf(file) == 0) {
            files.forget(file);
        }
        return true;
    }

    public int of(int name) {
        return names.fileOf(name);
    }

    public int write(int file, int place) {
        StoredFile stored = files.find(file);
        if (stored == null || !stored.canPutAt(place)) {
            return NONE;
        }
        long had = blocksHad();
        if (Long.bitCount(had) >= capacity) {
            return NONE;
        }
        // The block that is replaced still counts as had, so the new one is never the same.
        int block = memberOf(~had, 0, BLOCKS);
        if (block != NONE) {
            stored.put(place, block, today);
        }
        return block;
    }

    public boolean hole(int file, int place) {
        StoredFile stored = files.find(file);
        if (stored == null || !stored.canPutAt(place)) {
            return false;
        }
        stored.put(place, HOLE, today);
        return true;
    }

    public boolean share(int file, int place, int other, int at) {
        StoredFile taker = files.find(file);
        StoredFile giver = files.find(other);
        if (taker == null || giver == null || !taker.canPutAt(place)) {
            return false;
        }
        int block = giver.blockAt(at);
        if (block == NONE) {
            return false;
        }
        taker.put(place, block, today);
        return true;
    }

    public boolean cut(int file, int length) {
        StoredFile stored = files.find(file);
        if (stored == null || length < 0 || length > stored.length) {
            return false;
        }
        stored.shorten(length, today);
        return true;
    }

    public int block(int file, int place) {
        StoredFile stored = files.find(file);
        return stored == null ? NONE : stored.blockAt(place);
    }

    public int sum(int folder, int who, int what) {
        if (!folders.has(folder) || !isPerson(who) || !folders.maySum(folder, who)) {
            return NONE;
        }
        long set = filesOfTree(folder);
        switch (what) {
            case 0:
                return Long.bitCount(files.hadBy(set));
            case 1:
                return files.lengthOf(set);
            case 2:
                return Long.bitCount(set);
            default:
                return NONE;
        }
    }

    public int named(int folder, int who, int i) {
        if (!folders.has(folder) || !isPerson(who) || !folders.isSeen(folder, who)) {
            return NONE;
        }
        return names.memberIn(folder, i);
    }

    public int snapshot() {
        return snapshots.add(files.hadBy(EVERY_FILE));
    }

    public int drop(int snapshot) {
        int freedNow = heldAlone(snapshot);
        snapshots.remove(snapshot);
        return freedNow;
    }

    public int alone(int snapshot) {
        return heldAlone(snapshot);
    }

    public int mark() {
        int number = marks.add(today);
        if (number != NONE) {
            for (int folder = 0; folder < folders.came; folder++) {
                marks.keep(number, folder, takenBy(folder));
            }
        }
        return number;
    }

    public int grew(int folder, int from, int to) {
        if (!folders.has(folder) || !marks.has(from)) {
            return NO_GROWTH_TOLD;
        }
        if (to == NONE) {
            return takenBy(folder) - marks.takenAt(from, folder);
        }
        if (!marks.has(to)) {
            return NO_GROWTH_TOLD;
        }
        return marks.takenAt(to, folder) - marks.takenAt(from, folder);
    }

    public int freed(int folder) {
        if (!folders.has(folder)) {
            return NONE;
        }
        int tree = folders.treeOf(folder);
        long going = names.filesWithin(tree) & ~names.filesWithin(~tree);
        return Long.bitCount(blocksFreedBy(going));
    }

    public int both(int a, int b) {
        if (files.find(a) == null || files.find(b) == null) {
            return NONE;
        }
        return Long.bitCount(blocksFreedBy(1L << a | 1L << b));
    }

    public int plan(int folder, int n) {
        return findPlan(folder, n) ? planner.leastWorth : NONE;
    }

    public int planned(int folder, int n, int k) {
        return findPlan(folder, n) ? memberOf(planner.best, k, MOST_FILES) : NONE;
    }

    public int largest(int folder, int k) {
        if (!folders.has(folder)) {
            return NONE;
        }
        return files.byBlocks(filesOfTree(folder), k);
    }

    public boolean holds(int blocks) {
        if (blocks < 1 || blocks > BLOCKS || Long.bitCount(blocksHad()) > blocks) {
            return false;
        }
        capacity = blocks;
        return true;
    }

    public int full(int what) {
        switch (what) {
            case 0:
                return dayFullBy(marks.greatestGrowth());
            case 1:
                return dayFullBy(marks.leastGrowth());
            default:
                return NONE;
        }
    }

    public int told(int file, int what) {
        StoredFile stored = files.find(file);
        if (stored == null) {
            return NONE;
        }
        switch (what) {
            case 0:
                return stored.length;
            case 1:
                return stored.owner;
            case 2:
                return stored.worth;
            case 3:
                return stored.changed;
            case 4:
                return names.countOf(file);
            case 5:
                return Long.bitCount(stored.blocks);
            case 6:
                return stored.countHoles();
            default:
                return NONE;
        }
    }

    public int count(int what) {
        switch (what) {
            case 0:
                return today;
            case 1:
                return folders.came;
            case 2:
                return files.countThere();
            case 3:
                return names.countThere();
            case 4:
                return snapshots.countThere();
            case 5:
                return marks.came;
            case 6:
                return Long.bitCount(blocksHad());
            case 7:
                return capacity;
            default:
                return NONE;
        }
    }

    private static boolean isPerson(int person) {
        return person >= 0 && person < PEOPLE;
    }

    private static boolean isMember(long set, int number) {
        return (set >> number & 1L) != 0;
    }

    /** The k-th number (from 0 on) below the bound that is in the set, or NONE. */
    private static int memberOf(long set, int k, int bound) {
        int before = 0;
        for (int number = 0; number < bound; number++) {
            if (isMember(set, number)) {
                if (before == k) {
                    return number;
                }
                before++;
            }
        }
        return NONE;
    }

    /** Both limits are looked at before either list grows: a refused call changes nothing. */
    private boolean canTakeFile() {
        return files.hasRoom() && names.hasRoom();
    }

    private long filesOfTree(int folder) {
        return names.filesWithin(folders.treeOf(folder));
    }

    private int takenBy(int folder) {
        return Long.bitCount(files.hadBy(filesOfTree(folder)));
    }

    private long blocksHad() {
        return files.hadBy(EVERY_FILE) | snapshots.heldBesides(NONE);
    }

    private long blocksFreedBy(long going) {
        return files.hadBy(going) & ~files.hadBy(~going) & ~snapshots.heldBesides(NONE);
    }

    private int heldAlone(int snapshot) {
        if (!snapshots.has(snapshot)) {
            return NONE;
        }
        long others = files.hadBy(EVERY_FILE) | snapshots.heldBesides(snapshot);
        return Long.bitCount(snapshots.heldBy(snapshot) & ~others);
    }

    private boolean findPlan(int folder, int wanted) {
        if (!folders.has(folder) || wanted < 1 || wanted > BLOCKS) {
            return false;
        }
        long set = filesOfTree(folder);
        if (Long.bitCount(set) > MOST_PLANNED) {
            return false;
        }
        return planner.search(files, set, blocksFreedBy(set), wanted);
    }

    private int dayFullBy(int growth) {
        if (growth <= 0) {
            return NONE;
        }
        int lacking = capacity - takenBy(ROOT);
        return today + (lacking + growth - 1) / growth;
    }

    /** The folders that came, each with the one that it is in. */
    private static final class Folders {
        private final int[] parent = new int[MOST_FOLDERS];
        private final int[] owner = new int[MOST_FOLDERS];
        private final boolean[] hidden = new boolean[MOST_FOLDERS];
        private int came;

        Folders() {
            parent[ROOT] = NONE;
            came = 1;
        }

        boolean has(int folder) {
            return folder >= 0 && folder < came;
        }

        int add(int in, int ownedBy, boolean isHidden) {
            if (came >= MOST_FOLDERS) {
                return NONE;
            }
            parent[came] = in;
            owner[came] = ownedBy;
            hidden[came] = isHidden;
            came++;
            return came - 1;
        }

        void putIn(int folder, int to) {
            if (has(folder)) {
                parent[folder] = to;
            }
        }

        boolean isInTree(int folder, int top) {
            int at = folder;
            for (int step = 0; step < MOST_FOLDERS && has(at); step++) {
                if (at == top) {
                    return true;
                }
                at = parent[at];
            }
            return false;
        }

        int treeOf(int top) {
            int tree = 0;
            for (int folder = 0; folder < came; folder++) {
                if (isInTree(folder, top)) {
                    tree |= 1 << folder;
                }
            }
            return tree;
        }

        boolean isSeen(int folder, int who) {
            int at = folder;
            for (int step = 0; step < MOST_FOLDERS && has(at); step++) {
                if (hidden[at] && owner[at] != who) {
                    return false;
                }
                at = parent[at];
            }
            return true;
        }

        /** A hidden folder tells its sums to whoever sees the folder that it is in. */
        boolean maySum(int folder, int who) {
            return has(folder) && (isSeen(folder, who) || isSeen(parent[folder], who));
        }
    }

    /** What a file has, and what is told of it. */
    private static final class StoredFile {
        private final int owner;
        private final int worth;
        private final int[] places = new int[PLACES];
        private int length;
        private int changed;
        // Kept beside the places, since nearly every sum asks for it.
        private long blocks;

        StoredFile(int owner, int worth, int day) {
            this.owner = owner;
            this.worth = worth;
            this.changed = day;
        }

        StoredFile duplicate(int day) {
            StoredFile twin = new StoredFile(owner, worth, day);
            for (int place = 0; place < length && place < PLACES; place++) {
                twin.places[place] = places[place];
            }
            twin.length = length;
            twin.blocks = blocks;
            return twin;
        }

        boolean canPutAt(int place) {
            return place >= 0 && place <= length && place < PLACES;
        }

        int blockAt(int place) {
            return place >= 0 && place < length && place < PLACES ? places[place] : NONE;
        }

        void put(int place, int content, int day) {
            if (!canPutAt(place)) {
                return;
            }
            places[place] = content;
            length = Math.max(length, place + 1);
            noteChange(day);
        }

        void shorten(int to, int day) {
            length = to;
            noteChange(day);
        }

        int countHoles() {
            int holes = 0;
            for (int place = 0; place < length; place++) {
                if (blockAt(place) == HOLE) {
                    holes++;
                }
            }
            return holes;
        }

        /** A block may stand at several places, so the set is gathered anew. */
        private void noteChange(int day) {
            changed = day;
            blocks = 0;
            for (int place = 0; place < length; place++) {
                int block = blockAt(place);
                if (block != HOLE) {
                    blocks |= 1L << block;
                }
            }
        }
    }

    /** The files that came; one that is gone leaves its number empty. */
    private static final class Files {
        private final StoredFile[] all = new StoredFile[MOST_FILES];
        private int came;

        boolean hasRoom() {
            return came < MOST_FILES;
        }

        int add(StoredFile stored) {
            if (!hasRoom()) {
                return NONE;
            }
            all[came] = stored;
            came++;
            return came - 1;
        }

        /** The file, or null if it never came or is gone. */
        StoredFile find(int file) {
            return file >= 0 && file < came ? all[file] : null;
        }

        void forget(int file) {
            if (file >= 0 && file < came) {
                all[file] = null;
            }
        }

        int countThere() {
            int there = 0;
            for (int file = 0; file < came; file++) {
                if (find(file) != null) {
                    there++;
                }
            }
            return there;
        }

        long hadBy(long set) {
            long had = 0;
            for (int file = 0; file < came; file++) {
                StoredFile stored = find(file);
                if (stored != null && isMember(set, file)) {
                    had |= stored.blocks;
                }
            }
            return had;
        }

        int lengthOf(long set) {
            int length = 0;
            for (int file = 0; file < came; file++) {
                StoredFile stored = find(file);
                if (stored != null && isMember(set, file)) {
                    length += stored.length;
                }
            }
            return length;
        }

        /** The file of the set that k others stand ahead of, or NONE. */
        int byBlocks(long set, int k) {
            for (int file = 0; file < came; file++) {
                if (isMember(set, file) && countAhead(set, file) == k) {
                    return file;
                }
            }
            return NONE;
        }

        private int countAhead(long set, int file) {
            int size = sizeOf(file);
            int ahead = 0;
            for (int other = 0; other < came; other++) {
                if (isMember(set, other)) {
                    int otherSize = sizeOf(other);
                    if (otherSize > size || otherSize == size && other < file) {
                        ahead++;
                    }
                }
            }
            return ahead;
        }

        private int sizeOf(int file) {
            StoredFile stored = find(file);
            return stored == null ? 0 : Long.bitCount(stored.blocks);
        }
    }

    /** The names that came; one that went has NONE as its file. */
    private static final class Names {
        private final int[] fileNamed = new int[MOST_NAMES];
        private final int[] folderOf = new int[MOST_NAMES];
        private int came;

        boolean hasRoom() {
            return came < MOST_NAMES;
        }

        int add(int file, int in) {
            if (!hasRoom()) {
                return NONE;
            }
            fileNamed[came] = file;
            folderOf[came] = in;
            came++;
            return came - 1;
        }

        int fileOf(int name) {
            return name >= 0 && name < came ? fileNamed[name] : NONE;
        }

        void remove(int name) {
            if (name >= 0 && name < came) {
                fileNamed[name] = NONE;
            }
        }

        int countOf(int file) {
            int found = 0;
            for (int name = 0; name < came; name++) {
                if (fileNamed[name] == file) {
                    found++;
                }
            }
            return found;
        }

        int countThere() {
            return came - countOf(NONE);
        }

        /** The k-th name (from 0 on) that is right in the folder, or NONE. */
        int memberIn(int folder, int k) {
            int before = 0;
            for (int name = 0; name < came; name++) {
                if (fileNamed[name] != NONE && folderOf[name] == folder) {
                    if (before == k) {
                        return name;
                    }
                    before++;
                }
            }
            return NONE;
        }

        long filesWithin(int tree) {
            long found = 0;
            for (int name = 0; name < came; name++) {
                if (fileNamed[name] != NONE && isMember(tree, folderOf[name])) {
                    found |= 1L << fileNamed[name];
                }
            }
            return found;
        }
    }

    /** The snapshots; one that holds no block is there all the same. */
    private static final class Snapshots {
        private final boolean[] there = new boolean[MOST_SNAPSHOTS];
        private final long[] held = new long[MOST_SNAPSHOTS];

        boolean has(int snapshot) {
            return snapshot >= 0 && snapshot < MOST_SNAPSHOTS && there[snapshot];
        }

        int add(long blocks) {
            for (int number = 0; number < MOST_SNAPSHOTS; number++) {
                if (!there[number]) {
                    there[number] = true;
                    held[number] = blocks;
                    return number;
                }
            }
            return NONE;
        }

        void remove(int snapshot) {
            if (has(snapshot)) {
                there[snapshot] = false;
            }
        }

        int countThere() {
            int found = 0;
            for (int number = 0; number < MOST_SNAPSHOTS; number++) {
                if (there[number]) {
                    found++;
                }
            }
            return found;
        }

        long heldBy(int snapshot) {
            return has(snapshot) ? held[snapshot] : 0L;
        }

        /** What all snapshots but one hold; all of them, if the one is NONE. */
        long heldBesides(int left) {
            long found = 0;
            for (int number = 0; number < MOST_SNAPSHOTS; number++) {
                if (number != left) {
                    found |= heldBy(number);
                }
            }
            return found;
        }
    }

    /** The marks; a folder that wasn't there yet keeps its 0. */
    private static final class Marks {
        private final int[] day = new int[MOST_MARKS];
        private final int[] taken = new int[MOST_MARKS * MOST_FOLDERS];
        private int came;

        boolean has(int mark) {
            return mark >= 0 && mark < came;
        }

        int add(int now) {
            if (came >= MOST_MARKS) {
                return NONE;
            }
            day[came] = now;
            came++;
            return came - 1;
        }

        void keep(int mark, int folder, int blocks) {
            if (isKept(mark, folder)) {
                taken[mark * MOST_FOLDERS + folder] = blocks;
            }
        }

        int takenAt(int mark, int folder) {
            return isKept(mark, folder) ? taken[mark * MOST_FOLDERS + folder] : 0;
        }

        /** The least whole growth a day of the root, or 0 (which tells no day) without a pair. */
        int leastGrowth() {
            int least = 0;
            boolean any = false;
            for (int mark = 1; mark < came; mark++) {
                int days = day[mark] - day[mark - 1];
                if (days > 0) {
                    int growth = Math.floorDiv(moreAt(mark), days);
                    least = any ? Math.min(least, growth) : growth;
                    any = true;
                }
            }
            return least;
        }

        /** The greatest, cut up; 0 stands for all that isn't above it, as none of it tells a day. */
        int greatestGrowth() {
            int greatest = 0;
            for (int mark = 1; mark < came; mark++) {
                int days = day[mark] - day[mark - 1];
                if (days > 0) {
                    greatest = Math.max(greatest, -Math.floorDiv(-moreAt(mark), days));
                }
            }
            return greatest;
        }

        private int moreAt(int mark) {
            return takenAt(mark, ROOT) - takenAt(mark - 1, ROOT);
        }

        private boolean isKept(int mark, int folder) {
            return has(mark) && folder >= 0 && folder < MOST_FOLDERS;
        }
    }

    /** Finds the set of files of least worth that frees enough blocks. */
    private static final class Planner {
        // Above the worth of all files that a plan may have.
        private static final int NOT_FOUND = MOST_PLANNED * WORTHS;

        private final int[] number = new int[MOST_PLANNED];
        private final int[] worth = new int[MOST_PLANNED];
        private final long[] blocks = new long[MOST_PLANNED];
        private int size;
        private int wanted;
        private int leastWorth;
        private long best;

        /** Whether there is a set; freeable is what goes if all of the files go. */
        boolean search(Files files, long set, long freeable, int enough) {
            gather(files, set);
            wanted = enough;
            leastWorth = NOT_FOUND;
            best = 0;
            decide(this, size, freeable, 0L, 0);
            return leastWorth < NOT_FOUND;
        }

        private void gather(Files files, long set) {
            size = 0;
            for (int file = 0; file < files.came; file++) {
                StoredFile stored = files.find(file);
                if (stored != null && isMember(set, file) && size < MOST_PLANNED) {
                    number[size] = file;
                    worth[size] = stored.worth;
                    blocks[size] = stored.blocks;
                    size++;
                }
            }
        }

        /**
         * The file of the highest number is decided first, and kept before it goes: so the sets
         * come in the order of their numbers, and the first of like worth is the one that is due.
         */
        private static void decide(Planner plan, int open, long free, long going, int sum) {
            if (open > plan.size || open > MOST_PLANNED) {
                return;
            }
            // What is still to be decided can only free less and cost more.
            if (Long.bitCount(free) < plan.wanted || sum >= plan.leastWorth) {
                return;
            }
            if (open <= 0) {
                plan.leastWorth = sum;
                plan.best = going;
                return;
            }
            int next = open - 1;
            decide(plan, next, free & ~plan.blocks[next], going, sum);
            long withNext = going | 1L << plan.number[next];
            decide(plan, next, free, withNext, sum + plan.worth[next]);
        }
    }
}
