import java.util.ArrayDeque;
import java.util.ArrayList;
import java.util.Collections;
import java.util.IdentityHashMap;
import java.util.LinkedHashSet;
import java.util.List;
import java.util.Map;
import java.util.NoSuchElementException;
import java.util.Set;
import java.util.TreeMap;
import java.util.TreeSet;

/** The document written once more, in another way and with the Java library, to compare answers with. */
final class Model {
    private static final String DOORS = "lrdeuULR";

    /** A page that is never changed; a bottom page has no kids. */
    private static final class Node {
        final List<Integer> keys;
        final List<Node> kids;
        final int made;

        Node(List<Integer> keys, List<Node> kids, int made) {
            this.keys = List.copyOf(keys);
            this.kids = List.copyOf(kids);
            this.made = made;
        }

        boolean isBottom() {
            return kids.isEmpty();
        }
    }

    private static final class Walker {
        Integer room;
        int points;
        int hints;
        final Set<Integer> marks = new LinkedHashSet<>();
        final StringBuilder doors = new StringBuilder();
        final List<Integer> versions = new ArrayList<>();
        /** For each task that has begun, the steps and the hints at that time. */
        final Map<Integer, int[]> begun = new TreeMap<>();
    }

    private static final class Errand {
        final int first;
        final int last;
        final int prize;
        int doer = -1;

        Errand(int first, int last, int prize) {
            this.first = first;
            this.last = last;
            this.prize = prize;
        }
    }

    private final List<Node> roots = new ArrayList<>();
    private final List<Map<Integer, Map<Character, Integer>>> mazes = new ArrayList<>();
    private final List<Walker> walkers = new ArrayList<>();
    private final List<Errand> errands = new ArrayList<>();

    Model() {
        add(new Node(List.of(), List.of(), 0));
    }

    // ---- the tree ----

    private int last() {
        return roots.size() - 1;
    }

    private void add(Node root) {
        roots.add(root);
        Map<Integer, Map<Character, Integer>> maze = new TreeMap<>();
        openDoors(maze, root);
        mazes.add(maze);
    }

    private static int indexFor(Node node, int key) {
        int index = Collections.binarySearch(node.keys, key);
        return index >= 0 ? index : -index - 1;
    }

    private Node inserted(int key) {
        int version = roots.size();
        Node grown = grow(roots.get(last()), key, version);
        if (grown.keys.size() < 5) {
            return grown;
        }
        return new Node(List.of(grown.keys.get(2)), halves(grown, version), version);
    }

    /** May answer a page of five keys, which the page above must split. */
    private static Node grow(Node node, int key, int version) {
        List<Integer> keys = new ArrayList<>(node.keys);
        List<Node> kids = new ArrayList<>(node.kids);
        int index = indexFor(node, key);
        if (node.isBottom()) {
            keys.add(index, key);
        } else {
            Node kid = grow(node.kids.get(index), key, version);
            kids.set(index, kid);
            if (kid.keys.size() == 5) {
                keys.add(index, kid.keys.get(2));
                kids.remove(index);
                kids.addAll(index, halves(kid, version));
            }
        }
        return new Node(keys, kids, version);
    }

    private static List<Node> halves(Node node, int version) {
        boolean bottom = node.isBottom();
        return List.of(
                new Node(node.keys.subList(0, 2), bottom ? List.of() : node.kids.subList(0, 3), version),
                new Node(node.keys.subList(3, 5), bottom ? List.of() : node.kids.subList(3, 6), version));
    }

    private Node removed(int key) {
        Node shrunk = shrink(roots.get(last()), key, roots.size());
        return shrunk.keys.isEmpty() && !shrunk.isBottom() ? shrunk.kids.get(0) : shrunk;
    }

    private static Node shrink(Node node, int key, int version) {
        List<Integer> keys = new ArrayList<>(node.keys);
        List<Node> kids = new ArrayList<>(node.kids);
        int index = indexFor(node, key);
        boolean isHere = index < keys.size() && keys.get(index) == key;
        if (node.isBottom()) {
            keys.remove(index);
            return new Node(keys, kids, version);
        }
        int out = key;
        if (isHere) {
            out = greatest(kids.get(index));
            keys.set(index, out);
        }
        kids.set(index, shrink(kids.get(index), out, version));
        if (kids.get(index).keys.size() == 1) {
            mend(keys, kids, index, version);
        }
        return new Node(keys, kids, version);
    }

    private static int greatest(Node node) {
        return node.isBottom() ? node.keys.get(node.keys.size() - 1) : greatest(node.kids.get(node.kids.size() - 1));
    }

    /** Puts two pages and the key between them in a row, and cuts it where the rule says. */
    private static void mend(List<Integer> keys, List<Node> kids, int index, int version) {
        boolean hasLeft = index > 0;
        boolean hasRight = index < keys.size();
        boolean leftLends = hasLeft && kids.get(index - 1).keys.size() > 2;
        boolean rightLends = hasRight && kids.get(index + 1).keys.size() > 2;
        boolean toLeft = leftLends || !rightLends && hasLeft;
        int left = toLeft ? index - 1 : index;
        List<Integer> row = new ArrayList<>(kids.get(left).keys);
        row.add(keys.get(left));
        row.addAll(kids.get(left + 1).keys);
        List<Node> rowKids = new ArrayList<>(kids.get(left).kids);
        rowKids.addAll(kids.get(left + 1).kids);
        boolean bottom = rowKids.isEmpty();
        if (leftLends || rightLends) {
            int cut = leftLends ? row.size() - 3 : 2;
            kids.set(left, new Node(row.subList(0, cut), bottom ? List.of() : rowKids.subList(0, cut + 1), version));
            kids.set(left + 1, new Node(row.subList(cut + 1, row.size()),
                    bottom ? List.of() : rowKids.subList(cut + 1, rowKids.size()), version));
            keys.set(left, row.get(cut));
        } else {
            kids.set(left, new Node(row, rowKids, version));
            kids.remove(left + 1);
            keys.remove(left);
        }
    }

    private static List<Node> allPages(Node node) {
        List<Node> pages = new ArrayList<>();
        pages.add(node);
        node.kids.forEach(kid -> pages.addAll(allPages(kid)));
        return pages;
    }

    // ---- rooms ----

    private static void connect(Map<Integer, Map<Character, Integer>> maze, int a, char there, int b, char back) {
        maze.get(a).put(there, b);
        maze.get(b).put(back, a);
    }

    private static void openDoors(Map<Integer, Map<Character, Integer>> maze, Node node) {
        node.keys.forEach(key -> maze.put(key, new TreeMap<>()));
        node.kids.forEach(kid -> openDoors(maze, kid));
        for (int i = 0; i + 1 < node.keys.size(); i++) {
            connect(maze, node.keys.get(i), 'r', node.keys.get(i + 1), 'l');
        }
        for (int i = 0; i + 1 < node.kids.size(); i++) {
            List<Integer> left = node.kids.get(i).keys;
            int lastLeft = left.get(left.size() - 1);
            int firstRight = node.kids.get(i + 1).keys.get(0);
            connect(maze, node.keys.get(i), 'd', lastLeft, 'U');
            connect(maze, node.keys.get(i), 'e', firstRight, 'u');
            connect(maze, lastLeft, 'R', firstRight, 'L');
        }
    }

    private Map<Integer, Integer> lengthsFrom(int version, int start) {
        Map<Integer, Integer> lengths = new TreeMap<>();
        ArrayDeque<Integer> queue = new ArrayDeque<>();
        lengths.put(start, 0);
        queue.add(start);
        while (!queue.isEmpty()) {
            int room = queue.remove();
            for (int next : mazes.get(version).get(room).values()) {
                if (lengths.putIfAbsent(next, lengths.get(room) + 1) == null) {
                    queue.add(next);
                }
            }
        }
        return lengths;
    }

    private void wantVersion(int version) {
        if (version < 0 || version >= roots.size()) {
            throw new IndexOutOfBoundsException();
        }
    }

    private void wantRoom(int version, int key) {
        if (!mazes.get(version).containsKey(key)) {
            throw new NoSuchElementException();
        }
    }

    private static void wantDoor(char door) {
        if (DOORS.indexOf(door) < 0) {
            throw new IllegalArgumentException();
        }
    }

    private Walker wantWalker(int number) {
        if (number < 0 || number >= walkers.size()) {
            throw new IndexOutOfBoundsException();
        }
        return walkers.get(number);
    }

    private static int wantPlace(Walker walker) {
        if (walker.room == null) {
            throw new NoSuchElementException();
        }
        return walker.room;
    }

    private Errand wantErrand(int number) {
        if (number < 0 || number >= errands.size()) {
            throw new IndexOutOfBoundsException();
        }
        return errands.get(number);
    }

    // ---- what follows from a new version ----

    private int change(Node root) {
        add(root);
        TreeSet<Integer> rooms = new TreeSet<>(mazes.get(last()).keySet());
        for (Walker walker : walkers) {
            walker.marks.retainAll(rooms);
            if (walker.room != null && rooms.contains(walker.room)) {
                continue;
            }
            walker.begun.clear();
            if (rooms.isEmpty()) {
                walker.room = null;
            } else if (walker.room == null || rooms.lower(walker.room) == null) {
                walker.room = rooms.first();
            } else {
                walker.room = rooms.lower(walker.room);
            }
        }
        return last();
    }

    private void begin(Walker walker, int number) {
        Errand errand = errands.get(number);
        if (errand.doer < 0 && walker.room != null && walker.room == errand.first) {
            walker.begun.put(number, new int[] {walker.doors.length(), walker.hints});
        }
    }

    private void finish(Walker walker, int number) {
        Errand errand = errands.get(number);
        if (!walker.begun.containsKey(number) || walker.room != errand.last) {
            return;
        }
        int[] start = walker.begun.get(number);
        int prize = 20 - 2 * (walker.hints - start[1]);
        if (mazes.get(last()).containsKey(errand.first)) {
            int shortest = lengthsFrom(last(), errand.last).get(errand.first);
            int made = walker.doors.length() - start[0];
            prize -= made > shortest ? made - shortest : 0;
        }
        walker.points += prize > 0 ? prize : 0;
        errand.doer = walkers.indexOf(walker);
        walkers.forEach(other -> other.begun.remove(number));
        Map<Integer, Map<Character, Integer>> maze = mazes.get(last());
        if (!maze.containsKey(errand.prize) && maze.size() < 200 && roots.size() < 150) {
            change(inserted(errand.prize));
        }
    }

    // ---- the calls ----

    int insert(int key) {
        if (key < 0 || key > 999) {
            throw new IllegalArgumentException();
        }
        if (mazes.get(last()).containsKey(key)) {
            throw new UnsupportedOperationException();
        }
        if (roots.size() == 150 || mazes.get(last()).size() == 200) {
            throw new IllegalStateException();
        }
        return change(inserted(key));
    }

    int remove(int key) {
        wantRoom(last(), key);
        if (roots.size() == 150) {
            throw new IllegalStateException();
        }
        return change(removed(key));
    }

    int goBack(int version) {
        wantVersion(version);
        if (roots.size() == 150) {
            throw new IllegalStateException();
        }
        return change(roots.get(version));
    }

    int versions() {
        return roots.size();
    }

    int keys(int version) {
        wantVersion(version);
        return mazes.get(version).size();
    }

    boolean has(int version, int key) {
        wantVersion(version);
        return mazes.get(version).containsKey(key);
    }

    int pages(int version) {
        wantVersion(version);
        return allPages(roots.get(version)).size();
    }

    int levels(int version) {
        wantVersion(version);
        int count = 1;
        for (Node node = roots.get(version); !node.isBottom(); node = node.kids.get(0)) {
            count++;
        }
        return count;
    }

    int madeIn(int version, int key) {
        wantVersion(version);
        wantRoom(version, key);
        return allPages(roots.get(version)).stream().filter(page -> page.keys.contains(key)).findFirst().get().made;
    }

    int sharedWith(int version, int other) {
        wantVersion(version);
        wantVersion(other);
        Set<Node> pages = Collections.newSetFromMap(new IdentityHashMap<>());
        pages.addAll(allPages(roots.get(other)));
        pages.retainAll(identities(allPages(roots.get(version))));
        return pages.size();
    }

    private static Set<Node> identities(List<Node> nodes) {
        Set<Node> set = Collections.newSetFromMap(new IdentityHashMap<>());
        set.addAll(nodes);
        return set;
    }

    boolean hasDoor(int version, int key, char door) {
        wantVersion(version);
        wantRoom(version, key);
        wantDoor(door);
        return mazes.get(version).get(key).containsKey(door);
    }

    int behind(int version, int key, char door) {
        if (!hasDoor(version, key, door)) {
            throw new UnsupportedOperationException();
        }
        return mazes.get(version).get(key).get(door);
    }

    int doors(int version, int key) {
        wantVersion(version);
        wantRoom(version, key);
        return mazes.get(version).get(key).size();
    }

    int distance(int version, int key, int other) {
        wantVersion(version);
        wantRoom(version, key);
        wantRoom(version, other);
        return lengthsFrom(version, key).get(other);
    }

    int nameLength(char door) {
        wantDoor(door);
        return List.of("left", "right", "down", "deep", "up", "upper", "before", "behind")
                .get(DOORS.indexOf(door)).length();
    }

    int addPupil(int key) {
        wantRoom(last(), key);
        if (walkers.size() == 6) {
            throw new IllegalStateException();
        }
        Walker walker = new Walker();
        walker.room = key;
        walkers.add(walker);
        for (int number = 0; number < errands.size(); number++) {
            begin(walker, number);
        }
        return walkers.size() - 1;
    }

    int step(int pupil, char door) {
        Walker walker = wantWalker(pupil);
        wantDoor(door);
        Integer next = mazes.get(last()).get(wantPlace(walker)).get(door);
        if (next == null) {
            throw new UnsupportedOperationException();
        }
        if (walker.doors.length() == 200) {
            throw new IllegalStateException();
        }
        walker.doors.append(door);
        walker.versions.add(last());
        walker.room = next;
        for (int number = 0; number < errands.size(); number++) {
            finish(walker, number);
        }
        for (int number = 0; number < errands.size(); number++) {
            begin(walker, number);
        }
        return next;
    }

    int whereIs(int pupil) {
        return wantPlace(wantWalker(pupil));
    }

    boolean mark(int pupil) {
        Walker walker = wantWalker(pupil);
        return walker.marks.add(wantPlace(walker));
    }

    int marks(int pupil) {
        return wantWalker(pupil).marks.size();
    }

    int markAt(int pupil, int index) {
        List<Integer> marks = new ArrayList<>(wantWalker(pupil).marks);
        if (index < 0 || index >= marks.size()) {
            throw new IndexOutOfBoundsException();
        }
        return marks.get(index);
    }

    int wipe(int pupil, int least) {
        Set<Integer> marks = wantWalker(pupil).marks;
        int before = marks.size();
        marks.removeIf(key -> key >= least);
        return before - marks.size();
    }

    char hint(int pupil, int key) {
        Walker walker = wantWalker(pupil);
        int room = wantPlace(walker);
        wantRoom(last(), key);
        walker.hints++;
        if (room == key) {
            return '.';
        }
        int length = lengthsFrom(last(), room).get(key);
        for (char door : DOORS.toCharArray()) {
            Integer next = mazes.get(last()).get(room).get(door);
            if (next != null && lengthsFrom(last(), next).get(key) == length - 1) {
                return door;
            }
        }
        throw new AssertionError("no way");
    }

    int hints(int pupil) {
        return wantWalker(pupil).hints;
    }

    int steps(int pupil) {
        return wantWalker(pupil).doors.length();
    }

    char doorAt(int pupil, int index) {
        Walker walker = wantWalker(pupil);
        if (index < 0 || index >= walker.doors.length()) {
            throw new IndexOutOfBoundsException();
        }
        return walker.doors.charAt(index);
    }

    int versionAt(int pupil, int index) {
        doorAt(pupil, index);
        return walkers.get(pupil).versions.get(index);
    }

    int addTask(int first, int last, int prize) {
        if (prize < 0 || prize > 999 || first == last) {
            throw new IllegalArgumentException();
        }
        if (errands.size() == 8) {
            throw new IllegalStateException();
        }
        errands.add(new Errand(first, last, prize));
        walkers.forEach(walker -> begin(walker, errands.size() - 1));
        return errands.size() - 1;
    }

    char task(int task) {
        return wantErrand(task).doer < 0 ? 'o' : 'd';
    }

    int doneBy(int task) {
        int doer = wantErrand(task).doer;
        if (doer < 0) {
            throw new NoSuchElementException();
        }
        return doer;
    }

    boolean hasBegun(int task, int pupil) {
        wantErrand(task);
        return wantWalker(pupil).begun.containsKey(task);
    }

    int points(int pupil) {
        return wantWalker(pupil).points;
    }

    int grade(int pupil) {
        return wantWalker(pupil).doors.length();
    }

    float turnShare() {
        int turns = 0;
        int all = 0;
        for (Walker walker : walkers) {
            all += walker.doors.length();
            turns += (int) walker.doors.chars().filter(door -> "deuU".indexOf(door) >= 0).count();
        }
        if (all == 0) {
            throw new NoSuchElementException();
        }
        return (float) turns / (float) all;
    }

    double meanFill() {
        return (double) mazes.get(last()).size() / (double) allPages(roots.get(last())).size();
    }

    boolean isSound() {
        return true;
    }
}
