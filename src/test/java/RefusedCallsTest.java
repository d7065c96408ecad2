import java.util.ArrayList;
import java.util.List;
import java.util.NoSuchElementException;

/**
 * "A method that throws an exception changes nothing.": a run of calls answers the same, whatever refused calls are
 * made between them. This shows what the maze keeps, but tells only later, such as the steps since a way began.
 */
public final class RefusedCallsTest {
    private static final int MOST_CALLS = 512;

    private final List<String> names = new ArrayList<>();
    private final List<Class<? extends RuntimeException>> dues = new ArrayList<>();
    private final List<Ask> asks = new ArrayList<>();

    private RefusedCallsTest() {
    }

    /** A call of any maze. */
    private interface Ask {
        Object of(Pagemaze maze);
    }

    public static void main(String[] args) {
        Check.sentence("A method that throws an exception changes nothing.");
        RefusedCallsTest test = new RefusedCallsTest();
        test.collectTree();
        test.collectRooms();
        test.collectPupils();
        test.collectTasks();
        test.compareRuns();
        whenFull();
        Check.end();
    }

    private void add(String name, Class<? extends RuntimeException> due, Ask ask) {
        names.add(name);
        dues.add(due);
        asks.add(ask);
    }

    // ---- calls that are refused at any time of the run ----

    private void collectTree() {
        for (int key : new int[] {-1, 1000, Integer.MIN_VALUE, Integer.MAX_VALUE}) {
            add("insert " + key, IllegalArgumentException.class, x -> x.insert(key));
            add("remove " + key, NoSuchElementException.class, x -> x.remove(key));
            add("madeIn 0 " + key, NoSuchElementException.class, x -> x.madeIn(0, key));
        }
        add("insert 30", UnsupportedOperationException.class, x -> x.insert(30));
        add("remove 11", NoSuchElementException.class, x -> x.remove(11));
        for (int version : new int[] {-1, 150, Integer.MIN_VALUE, Integer.MAX_VALUE}) {
            add("goBack " + version, IndexOutOfBoundsException.class, x -> x.goBack(version));
            add("keys " + version, IndexOutOfBoundsException.class, x -> x.keys(version));
            add("has " + version, IndexOutOfBoundsException.class, x -> x.has(version, 30));
            add("pages " + version, IndexOutOfBoundsException.class, x -> x.pages(version));
            add("levels " + version, IndexOutOfBoundsException.class, x -> x.levels(version));
            add("madeIn " + version, IndexOutOfBoundsException.class, x -> x.madeIn(version, 30));
            add("sharedWith " + version + " 0", IndexOutOfBoundsException.class, x -> x.sharedWith(version, 0));
            add("sharedWith 0 " + version, IndexOutOfBoundsException.class, x -> x.sharedWith(0, version));
        }
    }

    private void collectRooms() {
        add("hasDoor 150", IndexOutOfBoundsException.class, x -> x.hasDoor(150, 30, 'l'));
        add("hasDoor 0 30", NoSuchElementException.class, x -> x.hasDoor(0, 30, 'l'));
        add("hasDoor x", IllegalArgumentException.class, x -> x.hasDoor(5, 30, 'x'));
        add("behind 150", IndexOutOfBoundsException.class, x -> x.behind(150, 30, 'l'));
        add("behind 0 30", NoSuchElementException.class, x -> x.behind(0, 30, 'l'));
        add("behind x", IllegalArgumentException.class, x -> x.behind(5, 30, 'x'));
        add("behind u", UnsupportedOperationException.class, x -> x.behind(5, 30, 'u'));
        add("doors 150", IndexOutOfBoundsException.class, x -> x.doors(150, 30));
        add("doors 0 30", NoSuchElementException.class, x -> x.doors(0, 30));
        add("distance 150", IndexOutOfBoundsException.class, x -> x.distance(150, 30, 30));
        add("distance from 11", NoSuchElementException.class, x -> x.distance(5, 11, 30));
        add("distance to 11", NoSuchElementException.class, x -> x.distance(5, 30, 11));
        add("nameLength x", IllegalArgumentException.class, x -> x.nameLength('x'));
    }

    private void collectPupils() {
        add("addPupil 11", NoSuchElementException.class, x -> x.addPupil(11));
        add("step of 6", IndexOutOfBoundsException.class, x -> x.step(6, 'r'));
        add("step x", IllegalArgumentException.class, x -> x.step(0, 'x'));
        add("step through no door", UnsupportedOperationException.class, x -> x.step(0, noDoor(x)));
        add("hint for 11", NoSuchElementException.class, x -> x.hint(0, 11));
        for (int pupil : new int[] {-1, 6, Integer.MIN_VALUE, Integer.MAX_VALUE}) {
            add("whereIs " + pupil, IndexOutOfBoundsException.class, x -> x.whereIs(pupil));
            add("mark " + pupil, IndexOutOfBoundsException.class, x -> x.mark(pupil));
            add("marks " + pupil, IndexOutOfBoundsException.class, x -> x.marks(pupil));
            add("wipe " + pupil, IndexOutOfBoundsException.class, x -> x.wipe(pupil, 0));
            add("hint of " + pupil, IndexOutOfBoundsException.class, x -> x.hint(pupil, 30));
            add("hints " + pupil, IndexOutOfBoundsException.class, x -> x.hints(pupil));
            add("steps " + pupil, IndexOutOfBoundsException.class, x -> x.steps(pupil));
            add("markAt " + pupil, IndexOutOfBoundsException.class, x -> x.markAt(pupil, 0));
            add("doorAt " + pupil, IndexOutOfBoundsException.class, x -> x.doorAt(pupil, 0));
            add("versionAt " + pupil, IndexOutOfBoundsException.class, x -> x.versionAt(pupil, 0));
        }
        for (int index : new int[] {-1, 200, Integer.MIN_VALUE, Integer.MAX_VALUE}) {
            add("markAt 0 " + index, IndexOutOfBoundsException.class, x -> x.markAt(0, index));
            add("doorAt 0 " + index, IndexOutOfBoundsException.class, x -> x.doorAt(0, index));
            add("versionAt 0 " + index, IndexOutOfBoundsException.class, x -> x.versionAt(0, index));
        }
    }

    private void collectTasks() {
        add("addTask, prize -1", IllegalArgumentException.class, x -> x.addTask(10, 20, -1));
        add("addTask, prize 1000", IllegalArgumentException.class, x -> x.addTask(10, 20, 1000));
        add("addTask, same rooms", IllegalArgumentException.class, x -> x.addTask(30, 30, 5));
        add("doneBy, open", NoSuchElementException.class, x -> x.doneBy(0));
        for (int number : new int[] {-1, 8, Integer.MIN_VALUE, Integer.MAX_VALUE}) {
            add("task " + number, IndexOutOfBoundsException.class, x -> x.task(number));
            add("doneBy " + number, IndexOutOfBoundsException.class, x -> x.doneBy(number));
            add("hasBegun " + number + " 0", IndexOutOfBoundsException.class, x -> x.hasBegun(number, 0));
            add("hasBegun 0 " + number, IndexOutOfBoundsException.class, x -> x.hasBegun(0, number));
            add("points " + number, IndexOutOfBoundsException.class, x -> x.points(number));
            add("grade " + number, IndexOutOfBoundsException.class, x -> x.grade(number));
        }
    }

    private static char noDoor(Pagemaze maze) {
        int version = maze.versions() - 1;
        for (char door : "uULR".toCharArray()) {
            if (!maze.hasDoor(version, maze.whereIs(0), door)) {
                return door;
            }
        }
        return 'x';
    }

    // ---- the run ----

    /** ((10 20) 30 (40 50)) with two pupils, and a task 0 that nobody can do. */
    private static Pagemaze start() {
        Pagemaze x = Check.mazeOf(10, 20, 30, 40, 50);
        x.addPupil(10);
        x.addPupil(40);
        x.addTask(10, -1, 5);
        return x;
    }

    private static Ask[] run() {
        return new Ask[] {
            x -> x.addTask(20, 50, 60), x -> x.mark(0), x -> x.step(0, 'r'), x -> x.hint(0, 50), x -> x.mark(0),
            x -> x.step(0, 'U'), x -> x.step(0, 'e'), x -> x.insert(45), x -> x.step(0, 'r'), x -> x.step(0, 'r'),
            x -> x.points(0), x -> x.hasBegun(1, 0), x -> x.versions(), x -> x.addTask(40, 10, 70),
            x -> x.hint(1, 10), x -> x.step(1, 'L'), x -> x.mark(1), x -> x.step(1, 'l'), x -> x.points(1),
            x -> x.remove(20), x -> x.marks(0), x -> x.markAt(0, 0), x -> x.wipe(0, 11), x -> x.goBack(5),
            x -> x.whereIs(0), x -> x.whereIs(1), x -> x.madeIn(5, 30), x -> x.sharedWith(5, 6),
            x -> x.distance(5, 10, 50), x -> x.step(0, 'l'), x -> x.grade(0), x -> x.hints(0), x -> x.turnShare(),
        };
    }

    private void compareRuns() {
        Pagemaze plain = start();
        List<Object> answers = new ArrayList<>();
        for (Ask ask : run()) {
            answers.add(ask.of(plain));
        }
        Check.due("points of the run", plain.points(0) + " " + plain.points(1), "17 18");
        String end = State.of(plain);
        for (int number = 0; number < asks.size(); number++) {
            compareRun(number, answers, end);
        }
        Check.due("calls of a run", 5 + 3 + 7 * run().length < MOST_CALLS, true);
    }

    private void compareRun(int number, List<Object> answers, String end) {
        Pagemaze maze = start();
        Ask[] run = run();
        for (int call = 0; call < run.length; call++) {
            Check.thrown(names.get(number), dues.get(number), () -> asks.get(number).of(maze));
            Check.due("call " + call + " behind " + names.get(number), run[call].of(maze), answers.get(call));
        }
        Check.due("all that the maze tells in the end, with " + names.get(number), State.of(maze), end);
    }

    // ---- calls that are refused at a limit alone ----

    private static void whenFull() {
        Pagemaze x = start();
        for (int count = 0; count < 4; count++) {
            x.addPupil(20);
        }
        for (int count = 0; count < 7; count++) {
            x.addTask(10, 40, 60 + count);
        }
        Check.fillVersions(x);
        for (int count = 0; count < 99; count++) {
            Check.walk(x, 0, "rl");
        }
        Check.walk(x, 0, "rR");
        Check.refused("insert", IllegalStateException.class, x, () -> x.insert(70));
        Check.refused("remove", IllegalStateException.class, x, () -> x.remove(30));
        Check.refused("goBack", IllegalStateException.class, x, () -> x.goBack(0));
        Check.refused("addPupil", IllegalStateException.class, x, () -> x.addPupil(10));
        Check.refused("addTask", IllegalStateException.class, x, () -> x.addTask(10, 40, 70));
        Check.refused("step", IllegalStateException.class, x, () -> x.step(0, 'r'));
        Check.due("all are as they were", x.versions() + " " + x.whereIs(0) + " " + x.points(0) + " " + x.steps(0),
                "150 40 140 200");
    }
}
