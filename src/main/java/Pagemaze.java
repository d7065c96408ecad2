import java.util.Arrays;
import java.util.NoSuchElementException;

/** A maze teacher whose mazes are pages of a tree. */
public final class Pagemaze {
    private static final int KEY_BOUND = 1000;
    private static final int MOST_KEYS = 200;
    private static final int MOST_VERSIONS = 150;
    private static final int MOST_PUPILS = 6;
    private static final int MOST_STEPS = 200;
    private static final int MOST_TASKS = 8;
    private static final int FULL_POINTS = 20;
    private static final int HINT_PRICE = 2;

    private static final int PAGE_LEAST = 2;
    private static final int PAGE_MOST = 4;
    // 200 keys in pages of at least 2 fill 5 levels; the rest is a guard.
    private static final int MOST_LEVELS = 8;

    /** No key, and so no room. */
    private static final int NONE = -1;

    // The numbers of the doors follow the order in which hints prefer them.
    private static final int LEFT = 0;
    private static final int RIGHT = 1;
    private static final int DOWN = 2;
    private static final int DEEP = 3;
    private static final int UP = 4;
    private static final int UPPER = 5;
    private static final int BEFORE = 6;
    private static final int BEHIND = 7;
    private static final char[] LETTERS = {'l', 'r', 'd', 'e', 'u', 'U', 'L', 'R'};
    private static final int[] NAME_LENGTHS = {4, 5, 4, 4, 2, 5, 6, 6};

    private static final char AT_THE_GOAL = '.';
    private static final char OPEN = 'o';
    private static final char DONE = 'd';

    private final Tree tree;
    private final Place place;
    private final Ways ways;
    private final Pupil[] pupils;
    private int pupilCount;
    private final Task[] tasks;
    private int taskCount;

    public Pagemaze() {
        tree = new Tree();
        place = new Place();
        ways = new Ways();
        pupils = new Pupil[MOST_PUPILS];
        pupilCount = 0;
        tasks = new Task[MOST_TASKS];
        taskCount = 0;
    }

    // ---- the tree ----

    public int insert(int key)
            throws IllegalArgumentException, UnsupportedOperationException, IllegalStateException {
        if (!isKey(key)) {
            throw new IllegalArgumentException("the key is out of range");
        }
        if (tree.latest.holds(key)) {
            throw new UnsupportedOperationException("the key is there");
        }
        if (!tree.hasSpace()) {
            throw new IllegalStateException("there are too many versions or keys");
        }
        tree.putIn(key);
        settlePupils();
        return tree.count - 1;
    }

    public int remove(int key) throws NoSuchElementException, IllegalStateException {
        if (!tree.latest.holds(key)) {
            throw new NoSuchElementException("the key is not there");
        }
        if (tree.isFull()) {
            throw new IllegalStateException("there are too many versions");
        }
        tree.takeOut(key);
        settlePupils();
        return tree.count - 1;
    }

    public int goBack(int version) throws IndexOutOfBoundsException, IllegalStateException {
        Page root = wantedRoot(version);
        if (tree.isFull()) {
            throw new IllegalStateException("there are too many versions");
        }
        tree.addVersion(root);
        settlePupils();
        return tree.count - 1;
    }

    public int versions() {
        return tree.count;
    }

    public int keys(int version) throws IndexOutOfBoundsException {
        return Tree.countKeys(wantedRoot(version), 0);
    }

    public boolean has(int version, int key) throws IndexOutOfBoundsException {
        return wantedRoot(version).holds(key);
    }

    public int pages(int version) throws IndexOutOfBoundsException {
        return Tree.countPages(wantedRoot(version), 0);
    }

    public int levels(int version) throws IndexOutOfBoundsException {
        return wantedRoot(version).countLevels();
    }

    public int madeIn(int version, int key) throws IndexOutOfBoundsException, NoSuchElementException {
        goTo(wantedRoot(version), key);
        return place.pageVersion();
    }

    public int sharedWith(int version, int other) throws IndexOutOfBoundsException {
        Page root = wantedRoot(version);
        return Tree.countShared(root, wantedRoot(other), 0);
    }

    // ---- rooms ----

    public boolean hasDoor(int version, int key, char door)
            throws IndexOutOfBoundsException, NoSuchElementException, IllegalArgumentException {
        goTo(wantedRoot(version), key);
        return place.leadsTo(wantedDoor(door)) != NONE;
    }

    public int behind(int version, int key, char door)
            throws IndexOutOfBoundsException, NoSuchElementException, IllegalArgumentException,
            UnsupportedOperationException {
        goTo(wantedRoot(version), key);
        int room = place.leadsTo(wantedDoor(door));
        if (room == NONE) {
            throw new UnsupportedOperationException("no such door");
        }
        return room;
    }

    public int doors(int version, int key) throws IndexOutOfBoundsException, NoSuchElementException {
        goTo(wantedRoot(version), key);
        int count = 0;
        for (int door = 0; door < LETTERS.length; door++) {
            if (place.leadsTo(door) != NONE) {
                count++;
            }
        }
        return count;
    }

    public int distance(int version, int key, int other)
            throws IndexOutOfBoundsException, NoSuchElementException {
        Page root = wantedRoot(version);
        if (!root.holds(key) || !root.holds(other)) {
            throw new NoSuchElementException("no such room");
        }
        return ways.between(root, key, other);
    }

    public int nameLength(char door) throws IllegalArgumentException {
        int number = wantedDoor(door);
        return number < NAME_LENGTHS.length ? NAME_LENGTHS[number] : 0;
    }

    // ---- pupils ----

    public int addPupil(int key) throws NoSuchElementException, IllegalStateException {
        if (!tree.latest.holds(key)) {
            throw new NoSuchElementException("no such room");
        }
        if (pupilCount < 0 || pupilCount >= pupils.length) {
            throw new IllegalStateException("there are too many pupils");
        }
        Pupil pupil = new Pupil(key);
        pupils[pupilCount] = pupil;
        pupilCount++;
        beginTasks(pupil);
        return pupilCount - 1;
    }

    public int step(int pupil, char door)
            throws IndexOutOfBoundsException, IllegalArgumentException, NoSuchElementException,
            UnsupportedOperationException, IllegalStateException {
        Pupil walker = wantedPupil(pupil);
        int number = wantedDoor(door);
        goTo(tree.latest, wantedRoom(walker));
        int room = place.leadsTo(number);
        if (room == NONE) {
            throw new UnsupportedOperationException("no such door");
        }
        if (walker.stepCount >= MOST_STEPS) {
            throw new IllegalStateException("the pupil has made too many steps");
        }
        walker.walk(number, room, tree.count - 1);
        endTasks(walker, pupil);
        beginTasks(walker);
        return room;
    }

    public int whereIs(int pupil) throws IndexOutOfBoundsException, NoSuchElementException {
        return wantedRoom(wantedPupil(pupil));
    }

    public boolean mark(int pupil) throws IndexOutOfBoundsException, NoSuchElementException {
        Pupil marker = wantedPupil(pupil);
        return marker.addMark(wantedRoom(marker));
    }

    public int marks(int pupil) throws IndexOutOfBoundsException {
        return wantedPupil(pupil).markCount;
    }

    public int markAt(int pupil, int index) throws IndexOutOfBoundsException {
        int room = wantedPupil(pupil).markNumber(index);
        if (room == NONE) {
            throw new IndexOutOfBoundsException("no such mark");
        }
        return room;
    }

    public int wipe(int pupil, int least) throws IndexOutOfBoundsException {
        return wantedPupil(pupil).dropMarksFrom(least);
    }

    public char hint(int pupil, int key) throws IndexOutOfBoundsException, NoSuchElementException {
        Pupil asker = wantedPupil(pupil);
        int room = wantedRoom(asker);
        if (!tree.latest.holds(key)) {
            throw new NoSuchElementException("no such room");
        }
        asker.hintCount++;
        int door = ways.firstDoor(tree.latest, room, key);
        return door >= 0 && door < LETTERS.length ? LETTERS[door] : AT_THE_GOAL;
    }

    public int hints(int pupil) throws IndexOutOfBoundsException {
        return wantedPupil(pupil).hintCount;
    }

    public int steps(int pupil) throws IndexOutOfBoundsException {
        return wantedPupil(pupil).stepCount;
    }

    public char doorAt(int pupil, int index) throws IndexOutOfBoundsException {
        Pupil walker = wantedPupil(pupil);
        int door = walker.hasMade(index) ? walker.doorOf(index) : NONE;
        if (door < 0 || door >= LETTERS.length) {
            throw new IndexOutOfBoundsException("no such step");
        }
        return LETTERS[door];
    }

    public int versionAt(int pupil, int index) throws IndexOutOfBoundsException {
        Pupil walker = wantedPupil(pupil);
        if (!walker.hasMade(index)) {
            throw new IndexOutOfBoundsException("no such step");
        }
        return walker.versionOf(index);
    }

    // ---- tasks and grades ----

    public int addTask(int first, int last, int prize)
            throws IllegalArgumentException, IllegalStateException {
        if (!isKey(prize) || first == last) {
            throw new IllegalArgumentException("the prize is out of range, or both rooms are the same");
        }
        if (taskCount < 0 || taskCount >= tasks.length) {
            throw new IllegalStateException("there are too many tasks");
        }
        tasks[taskCount] = new Task(first, last, prize);
        for (Pupil pupil : pupils) {
            if (pupil != null && pupil.isIn(first)) {
                pupil.begin(taskCount);
            }
        }
        taskCount++;
        return taskCount - 1;
    }

    public char task(int task) throws IndexOutOfBoundsException {
        return wantedTask(task).isOpen() ? OPEN : DONE;
    }

    public int doneBy(int task) throws IndexOutOfBoundsException, NoSuchElementException {
        Task asked = wantedTask(task);
        if (asked.isOpen()) {
            throw new NoSuchElementException("the task is open");
        }
        return asked.doer;
    }

    public boolean hasBegun(int task, int pupil) throws IndexOutOfBoundsException {
        wantedTask(task);
        return wantedPupil(pupil).isOnWay(task);
    }

    public int points(int pupil) throws IndexOutOfBoundsException {
        return wantedPupil(pupil).pointCount;
    }

    public int grade(int pupil) throws IndexOutOfBoundsException {
        return countTrueSteps(wantedPupil(pupil));
    }

    // ---- figures ----

    public float turnShare() throws NoSuchElementException {
        int all = 0;
        int turns = 0;
        for (Pupil pupil : pupils) {
            if (pupil != null) {
                all += pupil.stepCount;
                turns += pupil.countTurns();
            }
        }
        if (all == 0) {
            throw new NoSuchElementException("there were no steps");
        }
        return (float) turns / (float) all;
    }

    public double meanFill() {
        int count = Tree.countPages(tree.latest, 0);
        return count == 0 ? 0.0 : (double) Tree.countKeys(tree.latest, 0) / (double) count;
    }

    public boolean isSound() {
        for (int version = 0; version < tree.count; version++) {
            if (!Tree.isTree(tree.rootOf(version))) {
                return false;
            }
        }
        for (Pupil pupil : pupils) {
            if (pupil != null && countTrueSteps(pupil) != pupil.stepCount) {
                return false;
            }
        }
        return true;
    }

    // ---- what the calls above look up; each of these throws what the caller is due ----

    private Page wantedRoot(int version) {
        Page root = tree.rootOf(version);
        if (root == null) {
            throw new IndexOutOfBoundsException("no such version");
        }
        return root;
    }

    private void goTo(Page root, int key) {
        if (!place.find(root, key)) {
            throw new NoSuchElementException("no such room");
        }
    }

    private static int wantedDoor(char letter) {
        for (int door = 0; door < LETTERS.length; door++) {
            if (LETTERS[door] == letter) {
                return door;
            }
        }
        throw new IllegalArgumentException("no such letter");
    }

    private Pupil wantedPupil(int number) {
        Pupil pupil = number >= 0 && number < pupils.length ? pupils[number] : null;
        if (pupil == null) {
            throw new IndexOutOfBoundsException("no such pupil");
        }
        return pupil;
    }

    private static int wantedRoom(Pupil pupil) {
        if (pupil.room == NONE) {
            throw new NoSuchElementException("the pupil is in no room");
        }
        return pupil.room;
    }

    private Task wantedTask(int number) {
        Task task = number >= 0 && number < tasks.length ? tasks[number] : null;
        if (task == null) {
            throw new IndexOutOfBoundsException("no such task");
        }
        return task;
    }

    private static boolean isKey(int key) {
        return key >= 0 && key < KEY_BOUND;
    }

    // ---- what follows from a change ----

    private void settlePupils() {
        for (Pupil pupil : pupils) {
            if (pupil != null) {
                pupil.dropLostMarks(tree.latest);
                pupil.settle(tree.latest);
            }
        }
    }

    private void beginTasks(Pupil pupil) {
        for (int number = 0; number < tasks.length; number++) {
            Task task = tasks[number];
            if (task != null && task.isOpen() && pupil.isIn(task.first)) {
                pupil.begin(number);
            }
        }
    }

    private void endTasks(Pupil walker, int walkerNumber) {
        for (int number = 0; number < tasks.length; number++) {
            Task task = tasks[number];
            if (task != null && walker.isOnWay(number) && walker.isIn(task.last)) {
                walker.pointCount += earnedPoints(walker, task, number);
                task.doer = walkerNumber;
                forgetWays(number);
                if (!tree.latest.holds(task.prize) && tree.hasSpace()) {
                    tree.putIn(task.prize);
                    settlePupils();
                }
            }
        }
    }

    private int earnedPoints(Pupil walker, Task task, int number) {
        int detour = 0;
        // Without the first room there is no shortest way to measure by.
        if (tree.latest.holds(task.first)) {
            detour = walker.stepsSince(number) - ways.between(tree.latest, task.first, task.last);
        }
        // A way can be shorter than the shortest one now, if rooms came while it was gone.
        int lost = Math.max(0, detour) + HINT_PRICE * walker.hintsSince(number);
        return Math.max(0, FULL_POINTS - lost);
    }

    private void forgetWays(int task) {
        for (Pupil pupil : pupils) {
            if (pupil != null) {
                pupil.forget(task);
            }
        }
    }

    private int countTrueSteps(Pupil pupil) {
        int count = 0;
        for (int index = 0; index < pupil.stepCount; index++) {
            Page root = tree.rootOf(pupil.versionOf(index));
            if (root != null && place.find(root, pupil.fromOf(index))
                    && place.leadsTo(pupil.doorOf(index)) == pupil.toOf(index)) {
                count++;
            }
        }
        return count;
    }

    /** A page of the tree; it is changed only until the version that it is made for stands. */
    private static final class Page {
        // One key and one page below more than may stay, for a page that is about to be split.
        private final int[] rooms = new int[PAGE_MOST + 1];
        private final Page[] below = new Page[PAGE_MOST + 2];
        private int size;
        private final int made;

        Page(int version) {
            size = 0;
            made = version;
        }

        int roomAt(int index) {
            return index >= 0 && index < size && index < rooms.length ? rooms[index] : NONE;
        }

        Page pageAt(int slot) {
            return slot >= 0 && slot <= size && slot < below.length ? below[slot] : null;
        }

        static int firstOf(Page page) {
            return page != null && page.size > 0 ? page.rooms[0] : NONE;
        }

        static int lastOf(Page page) {
            if (page == null || page.size < 1 || page.size > page.rooms.length) {
                return NONE;
            }
            return page.rooms[page.size - 1];
        }

        boolean isBottom() {
            return pageAt(0) == null;
        }

        /** How many keys of the page are lower: where the key stands, or the page below for it. */
        int slotOf(int key) {
            int slot = 0;
            while (slot < size && slot < rooms.length && rooms[slot] < key) {
                slot++;
            }
            return slot;
        }

        void setRoom(int index, int room) {
            if (index >= 0 && index < size && index < rooms.length) {
                rooms[index] = room;
            }
        }

        void setPage(int slot, Page page) {
            if (slot >= 0 && slot <= size && slot < below.length) {
                below[slot] = page;
            }
        }

        Page copyFor(int version) {
            Page copy = new Page(version);
            for (int i = 0; i < rooms.length; i++) {
                copy.rooms[i] = rooms[i];
            }
            for (int i = 0; i < below.length; i++) {
                copy.below[i] = below[i];
            }
            copy.size = size;
            return copy;
        }

        /** Puts in a key, and the page below to the right of it. */
        void addRoom(int index, int room, Page right) {
            if (index < 0 || index > size || size >= rooms.length) {
                return;
            }
            for (int i = size; i > index; i--) {
                rooms[i] = rooms[i - 1];
                below[i + 1] = below[i];
            }
            rooms[index] = room;
            below[index + 1] = right;
            size++;
        }

        /** Takes out a key, and the page below to the right of it. */
        void dropRoom(int index) {
            if (index < 0 || index >= size || size > rooms.length) {
                return;
            }
            for (int i = index; i < size - 1; i++) {
                rooms[i] = rooms[i + 1];
                below[i + 1] = below[i + 2];
            }
            below[size] = null;
            size--;
        }

        void addInFront(int room, Page left) {
            addRoom(0, room, pageAt(0));
            setPage(0, left);
        }

        void dropFront() {
            Page second = pageAt(1);
            dropRoom(0);
            setPage(0, second);
        }

        void takeAll(Page other) {
            int count = other.size;
            for (int i = 0; i < count; i++) {
                addRoom(size, other.roomAt(i), other.pageAt(i + 1));
            }
        }

        /** Gives its keys behind the middle one to a new page, and loses the middle one. */
        Page splitOff(int version) {
            Page right = new Page(version);
            right.setPage(0, pageAt(PAGE_LEAST + 1));
            for (int i = PAGE_LEAST + 1; i < size; i++) {
                right.addRoom(right.size, roomAt(i), pageAt(i + 1));
            }
            for (int i = 0; i <= PAGE_LEAST; i++) {
                dropRoom(PAGE_LEAST);
            }
            return right;
        }

        /** The page that has the key, of this one and all below. */
        Page holderOf(int key) {
            Page here = this;
            for (int level = 0; level < MOST_LEVELS && here != null; level++) {
                int slot = here.slotOf(key);
                if (slot < here.size && here.roomAt(slot) == key) {
                    return here;
                }
                here = here.pageAt(slot);
            }
            return null;
        }

        boolean holds(int key) {
            return holderOf(key) != null;
        }

        int countLevels() {
            int count = 0;
            Page here = this;
            while (here != null && count < MOST_LEVELS) {
                count++;
                here = here.pageAt(0);
            }
            return count;
        }

        int leastRoom() {
            int least = NONE;
            Page here = this;
            for (int level = 0; level < MOST_LEVELS && here != null; level++) {
                least = firstOf(here);
                here = here.pageAt(0);
            }
            return least;
        }

        /** The greatest key that is lower, or NONE. */
        int roomBefore(int key) {
            int best = NONE;
            Page here = this;
            for (int level = 0; level < MOST_LEVELS && here != null; level++) {
                int slot = here.slotOf(key);
                if (slot > 0) {
                    best = here.roomAt(slot - 1);
                }
                here = here.pageAt(slot);
            }
            return best;
        }
    }

    /** The versions of the tree, and how a new one is made beside those ahead. */
    private static final class Tree {
        private final Page[] roots = new Page[MOST_VERSIONS];
        private int count;
        private Page latest;
        // The new pages from the outermost one down, and which page below follows each.
        private final Page[] path = new Page[MOST_LEVELS];
        private final int[] slots = new int[MOST_LEVELS];
        private int depth;

        Tree() {
            latest = new Page(0);
            roots[0] = latest;
            count = 1;
            depth = 0;
        }

        Page rootOf(int version) {
            return version >= 0 && version < count && version < roots.length ? roots[version] : null;
        }

        boolean isFull() {
            return count >= MOST_VERSIONS;
        }

        boolean hasSpace() {
            return !isFull() && countKeys(latest, 0) < MOST_KEYS;
        }

        void addVersion(Page root) {
            if (root != null && count >= 0 && count < roots.length) {
                roots[count] = root;
                latest = root;
                count++;
            }
        }

        void putIn(int key) {
            Page here = startPath();
            for (int level = 0; level < MOST_LEVELS && !here.isBottom(); level++) {
                here = goDown(here, here.slotOf(key));
            }
            here.addRoom(here.slotOf(key), key, null);
            addVersion(splitUpwards());
        }

        void takeOut(int key) {
            Page here = startPath();
            for (int level = 0; level < MOST_LEVELS && here.roomAt(here.slotOf(key)) != key; level++) {
                here = goDown(here, here.slotOf(key));
            }
            Page holder = here;
            int index = holder.slotOf(key);
            if (holder.isBottom()) {
                holder.dropRoom(index);
            } else {
                here = goDown(holder, index);
                for (int level = 0; level < MOST_LEVELS && !here.isBottom(); level++) {
                    here = goDown(here, here.size);
                }
                holder.setRoom(index, Page.lastOf(here));
                here.dropRoom(here.size - 1);
            }
            addVersion(fillUpwards());
        }

        private Page startPath() {
            Page root = latest.copyFor(count);
            depth = 0;
            setPath(root, 0);
            return root;
        }

        /** Makes the page below anew; without one, it stays where it is. */
        private Page goDown(Page here, int slot) {
            Page old = here.pageAt(slot);
            if (old == null) {
                return here;
            }
            Page page = old.copyFor(count);
            here.setPage(slot, page);
            setPath(page, slot);
            return page;
        }

        private void setPath(Page page, int slot) {
            if (depth >= 0 && depth < path.length && depth < slots.length) {
                path[depth] = page;
                slots[depth] = slot;
                depth++;
            }
        }

        private Page pathAt(int level) {
            return level >= 0 && level < depth && level < path.length ? path[level] : null;
        }

        private int slotAt(int level) {
            return level >= 0 && level < depth && level < slots.length ? slots[level] : 0;
        }

        /** Splits the pages of the path that have too many keys, and answers the outermost one. */
        private Page splitUpwards() {
            for (int level = depth - 1; level >= 0; level--) {
                Page page = pathAt(level);
                if (page == null || page.size <= PAGE_MOST) {
                    break;
                }
                int middle = page.roomAt(PAGE_LEAST);
                Page right = page.splitOff(count);
                Page above = pathAt(level - 1);
                if (above == null) {
                    Page root = new Page(count);
                    root.setPage(0, page);
                    root.addRoom(0, middle, right);
                    return root;
                }
                above.addRoom(slotAt(level), middle, right);
            }
            return pathAt(0);
        }

        /** Fills the pages of the path that have too few keys, and answers the outermost one. */
        private Page fillUpwards() {
            for (int level = depth - 1; level > 0; level--) {
                Page page = pathAt(level);
                Page above = pathAt(level - 1);
                if (page != null && above != null && page.size < PAGE_LEAST) {
                    fill(page, above, slotAt(level));
                }
            }
            Page root = pathAt(0);
            return root != null && root.size == 0 && !root.isBottom() ? root.pageAt(0) : root;
        }

        private void fill(Page page, Page above, int slot) {
            Page left = above.pageAt(slot - 1);
            Page right = above.pageAt(slot + 1);
            if (left != null && left.size > PAGE_LEAST) {
                borrowFromLeft(page, above, slot, left.copyFor(count));
            } else if (right != null && right.size > PAGE_LEAST) {
                borrowFromRight(page, above, slot, right.copyFor(count));
            } else if (left != null) {
                merge(left.copyFor(count), page, above, slot - 1);
            } else if (right != null) {
                merge(page, right, above, slot);
            }
        }

        private static void borrowFromLeft(Page page, Page above, int slot, Page lender) {
            above.setPage(slot - 1, lender);
            page.addInFront(above.roomAt(slot - 1), lender.pageAt(lender.size));
            above.setRoom(slot - 1, Page.lastOf(lender));
            lender.dropRoom(lender.size - 1);
        }

        private static void borrowFromRight(Page page, Page above, int slot, Page lender) {
            above.setPage(slot + 1, lender);
            page.addRoom(page.size, above.roomAt(slot), lender.pageAt(0));
            above.setRoom(slot, Page.firstOf(lender));
            lender.dropFront();
        }

        /** The left one of both pages, made in the new version, takes all that the right one has. */
        private static void merge(Page left, Page right, Page above, int index) {
            left.addRoom(left.size, above.roomAt(index), right.pageAt(0));
            left.takeAll(right);
            above.dropRoom(index);
            above.setPage(index, left);
        }

        private static int countKeys(Page page, int depth) {
            if (page == null || depth >= MOST_LEVELS) {
                return 0;
            }
            int count = page.size;
            for (int slot = 0; slot <= page.size; slot++) {
                count += countKeys(page.pageAt(slot), depth + 1);
            }
            return count;
        }

        private static int countPages(Page page, int depth) {
            if (page == null || depth >= MOST_LEVELS) {
                return 0;
            }
            int count = 1;
            for (int slot = 0; slot <= page.size; slot++) {
                count += countPages(page.pageAt(slot), depth + 1);
            }
            return count;
        }

        private static int countShared(Page page, Page otherRoot, int depth) {
            if (page == null || depth >= MOST_LEVELS) {
                return 0;
            }
            int count = isPageOf(page, otherRoot) ? 1 : 0;
            for (int slot = 0; slot <= page.size; slot++) {
                count += countShared(page.pageAt(slot), otherRoot, depth + 1);
            }
            return count;
        }

        private static boolean isPageOf(Page page, Page root) {
            // A page without keys can only be an outermost one.
            return page == root || page.size > 0 && root.holderOf(Page.firstOf(page)) == page;
        }

        static boolean isTree(Page root) {
            if (root == null || root.size == 0) {
                return root != null && root.isBottom();
            }
            return hasOrder(root, NONE, KEY_BOUND, root.countLevels(), 1)
                    && countKeys(root, 0) <= MOST_KEYS;
        }

        /** Tells whether a page and all below keep to the rules, with keys between two bounds. */
        private static boolean hasOrder(Page page, int low, int high, int levelsLeft, int least) {
            if (page == null || levelsLeft <= 0 || page.size < least || page.size > PAGE_MOST) {
                return false;
            }
            if (page.isBottom() != (levelsLeft == 1)) {
                return false;
            }
            int before = low;
            for (int slot = 0; slot <= page.size; slot++) {
                int behind = slot < page.size ? page.roomAt(slot) : high;
                if (behind <= before) {
                    return false;
                }
                if (!hasPart(page, slot, before, behind, levelsLeft - 1)) {
                    return false;
                }
                before = behind;
            }
            return true;
        }

        private static boolean hasPart(Page page, int slot, int low, int high, int levelsLeft) {
            Page part = page.pageAt(slot);
            return levelsLeft == 0 ? part == null : hasOrder(part, low, high, levelsLeft, PAGE_LEAST);
        }
    }

    /** Where a room is in a version, and where its doors lead. */
    private static final class Place {
        private Page page;
        private int index;
        private Page above;
        private int slot;

        Place() {
            page = null;
            index = 0;
            above = null;
            slot = 0;
        }

        boolean find(Page root, int key) {
            above = null;
            slot = 0;
            page = root;
            for (int level = 0; level < MOST_LEVELS && page != null; level++) {
                index = page.slotOf(key);
                if (index < page.size && page.roomAt(index) == key) {
                    return true;
                }
                above = page;
                slot = index;
                page = page.pageAt(index);
            }
            page = null;
            return false;
        }

        int pageVersion() {
            return page == null ? NONE : page.made;
        }

        /** The room behind a door, or NONE if there is no such door. */
        int leadsTo(int door) {
            if (page == null) {
                return NONE;
            }
            boolean isFirst = index == 0;
            boolean isLast = index == page.size - 1;
            switch (door) {
                case LEFT:
                    return page.roomAt(index - 1);
                case RIGHT:
                    return page.roomAt(index + 1);
                case DOWN:
                    return Page.lastOf(page.pageAt(index));
                case DEEP:
                    return Page.firstOf(page.pageAt(index + 1));
                case UP:
                    return isFirst && above != null ? above.roomAt(slot - 1) : NONE;
                case UPPER:
                    return isLast && above != null ? above.roomAt(slot) : NONE;
                case BEFORE:
                    return isFirst && above != null ? Page.lastOf(above.pageAt(slot - 1)) : NONE;
                case BEHIND:
                    return isLast && above != null ? Page.firstOf(above.pageAt(slot + 1)) : NONE;
                default:
                    return NONE;
            }
        }
    }

    /** Shortest ways; its rows are used again by each search. */
    private static final class Ways {
        private final int[] lengths = new int[KEY_BOUND];
        private final int[] queue = new int[MOST_KEYS];
        private int queued;
        private final Place place = new Place();

        Ways() {
            queued = 0;
        }

        /** The number of doors between two rooms of a version. */
        int between(Page root, int from, int to) {
            search(root, from);
            return lengthTo(to);
        }

        /** The first door of a shortest way, or NONE if there is none to go through. */
        int firstDoor(Page root, int from, int to) {
            // All doors lead both ways, so the lengths from the goal are those to the goal.
            search(root, to);
            int left = lengthTo(from);
            if (left <= 0 || !place.find(root, from)) {
                return NONE;
            }
            for (int door = 0; door < LETTERS.length; door++) {
                int room = place.leadsTo(door);
                if (room != NONE && lengthTo(room) == left - 1) {
                    return door;
                }
            }
            return NONE;
        }

        private int lengthTo(int room) {
            return room >= 0 && room < lengths.length ? lengths[room] : NONE;
        }

        private void search(Page root, int start) {
            Arrays.fill(lengths, NONE);
            queued = 0;
            reach(start, 0);
            for (int next = 0; next < queued && next < queue.length; next++) {
                int room = queue[next];
                boolean isThere = place.find(root, room);
                int length = lengthTo(room) + 1;
                for (int door = 0; isThere && door < LETTERS.length; door++) {
                    reach(place.leadsTo(door), length);
                }
            }
        }

        private void reach(int room, int length) {
            if (room >= 0 && room < lengths.length && lengths[room] == NONE
                    && queued >= 0 && queued < queue.length) {
                lengths[room] = length;
                queue[queued] = room;
                queued++;
            }
        }
    }

    /** A pupil: where it is, and what it has made so far. */
    private static final class Pupil {
        private int room;
        private int pointCount;
        private int hintCount;
        private int markCount;
        private final int[] marked = new int[MOST_KEYS];
        private int stepCount;
        private final int[] stepFrom = new int[MOST_STEPS];
        private final int[] stepTo = new int[MOST_STEPS];
        private final int[] stepDoor = new int[MOST_STEPS];
        private final int[] stepVersion = new int[MOST_STEPS];
        // For each task: whether the pupil is on its way, and its counts as it began that.
        private final boolean[] onWay = new boolean[MOST_TASKS];
        private final int[] stepsAhead = new int[MOST_TASKS];
        private final int[] hintsAhead = new int[MOST_TASKS];

        Pupil(int key) {
            room = key;
            pointCount = 0;
            hintCount = 0;
            markCount = 0;
            stepCount = 0;
        }

        /** A task may name any number as a room, that for none too. */
        boolean isIn(int key) {
            return room != NONE && room == key;
        }

        void walk(int door, int to, int version) {
            if (stepCount >= 0 && stepCount < MOST_STEPS) {
                stepFrom[stepCount] = room;
                stepTo[stepCount] = to;
                stepDoor[stepCount] = door;
                stepVersion[stepCount] = version;
                stepCount++;
                room = to;
            }
        }

        boolean hasMade(int index) {
            return index >= 0 && index < stepCount;
        }

        int fromOf(int index) {
            return index >= 0 && index < stepFrom.length ? stepFrom[index] : NONE;
        }

        int toOf(int index) {
            return index >= 0 && index < stepTo.length ? stepTo[index] : NONE;
        }

        int doorOf(int index) {
            return index >= 0 && index < stepDoor.length ? stepDoor[index] : NONE;
        }

        int versionOf(int index) {
            return index >= 0 && index < stepVersion.length ? stepVersion[index] : NONE;
        }

        int countTurns() {
            int count = 0;
            for (int index = 0; index < stepCount; index++) {
                int door = doorOf(index);
                if (door == DOWN || door == DEEP || door == UP || door == UPPER) {
                    count++;
                }
            }
            return count;
        }

        boolean addMark(int key) {
            for (int i = 0; i < markCount && i < marked.length; i++) {
                if (marked[i] == key) {
                    return false;
                }
            }
            if (markCount < 0 || markCount >= marked.length) {
                return false;
            }
            marked[markCount] = key;
            markCount++;
            return true;
        }

        int markNumber(int index) {
            return index >= 0 && index < markCount && index < marked.length ? marked[index] : NONE;
        }

        int dropMarksFrom(int least) {
            int kept = 0;
            for (int i = 0; i < markCount && i < marked.length; i++) {
                if (marked[i] < least) {
                    marked[kept] = marked[i];
                    kept++;
                }
            }
            int dropped = markCount - kept;
            markCount = kept;
            return dropped;
        }

        void dropLostMarks(Page root) {
            int kept = 0;
            for (int i = 0; i < markCount && i < marked.length; i++) {
                if (root.holds(marked[i])) {
                    marked[kept] = marked[i];
                    kept++;
                }
            }
            markCount = kept;
        }

        /** Brings the pupil into a new version. */
        void settle(Page root) {
            if (room == NONE) {
                room = root.leastRoom();
            } else if (!root.holds(room)) {
                int lower = root.roomBefore(room);
                room = lower == NONE ? root.leastRoom() : lower;
                forgetAll();
            }
        }

        void begin(int task) {
            if (task >= 0 && task < MOST_TASKS) {
                onWay[task] = true;
                stepsAhead[task] = stepCount;
                hintsAhead[task] = hintCount;
            }
        }

        boolean isOnWay(int task) {
            return task >= 0 && task < onWay.length && onWay[task];
        }

        void forget(int task) {
            if (task >= 0 && task < onWay.length) {
                onWay[task] = false;
            }
        }

        private void forgetAll() {
            for (int task = 0; task < onWay.length; task++) {
                onWay[task] = false;
            }
        }

        int stepsSince(int task) {
            return task >= 0 && task < stepsAhead.length ? stepCount - stepsAhead[task] : 0;
        }

        int hintsSince(int task) {
            return task >= 0 && task < hintsAhead.length ? hintCount - hintsAhead[task] : 0;
        }
    }

    /** A task: its rooms, its prize, and who has done it. */
    private static final class Task {
        private final int first;
        private final int last;
        private final int prize;
        private int doer;

        Task(int first, int last, int prize) {
            this.first = first;
            this.last = last;
            this.prize = prize;
            doer = NONE;
        }

        boolean isOpen() {
            return doer == NONE;
        }
    }
}
