import java.util.NoSuchElementException;
import java.util.TreeSet;

/** The boundary cases that the document's sentences on pupils name, and promises 17 to 28; one function a sentence. */
public final class PupilsBoundariesTest {
    private static final String LETTERS = "lrdeuULR";
    private static final char[] NO_LETTERS = {'x', 'D', 'E', '.', ' ', (char) 0, (char) 255, (char) 256, (char) 65535};

    private PupilsBoundariesTest() {
    }

    public static void main(String[] args) {
        numberOfPupils();
        roomToBeAddedIn();
        stepsOfVersions();
        greatestLowerKey();
        leastKey();
        noneWithoutRooms();
        asSoonAsThereIsOne();
        marksOfItsOwn();
        marksThatAreGone();
        marksInOrder();
        marksWiped();
        hintThere();
        hintsCounted();
        hintsInOrder();
        hintsToTheEnds();
        twoHundredSteps();
        indexOfAStep();
        indexOfAMark();
        inNone();
        noSuchRoom();
        noSuchLetter();
        noSuchDoor();
        noSuchPupil();
        firstListed();
        Check.end();
    }

    private static Pagemaze emptyWithPupil() {
        Pagemaze x = Check.mazeOf(10, 20);
        x.addPupil(20);
        x.goBack(0);
        return x;
    }

    private static String marksOf(Pagemaze maze, int pupil) {
        StringBuilder text = new StringBuilder();
        for (int index = 0; index < maze.marks(pupil); index++) {
            text.append(text.length() == 0 ? "" : " ").append(maze.markAt(pupil, index));
        }
        return text.toString();
    }

    /** One page of 10, 20, 30 and 40, whose rooms pupil 0 marks in the order 20, 30, 40, 10; it ends in 10. */
    private static Pagemaze marked() {
        Pagemaze x = Check.mazeOf(10, 20, 30, 40);
        x.addPupil(20);
        x.mark(0);
        Check.walk(x, 0, "r");
        x.mark(0);
        Check.walk(x, 0, "r");
        x.mark(0);
        Check.walk(x, 0, "lll");
        x.mark(0);
        return x;
    }

    // ---- where pupils are ----

    private static void numberOfPupils() {
        Check.sentence("At most 6 pupils are numbered from 0");
        Pagemaze x = Check.mazeOf(10, 20);
        for (int number = 0; number < 6; number++) {
            int next = number;
            Check.thrown("not yet there: " + number, IndexOutOfBoundsException.class, () -> x.whereIs(next));
            Check.due("number", x.addPupil(number % 2 == 0 ? 10 : 20), number);
            Check.due("there: " + number, x.whereIs(number), number % 2 == 0 ? 10 : 20);
        }
        Check.refused("a seventh one", IllegalStateException.class, x, () -> x.addPupil(10));
        Check.refused("and again", IllegalStateException.class, x, () -> x.addPupil(20));
        Check.thrown("number 6", IndexOutOfBoundsException.class, () -> x.whereIs(6));
        Check.due("the sixth one walks", x.step(5, 'l'), 10);
    }

    private static void roomToBeAddedIn() {
        Check.sentence("each in a room of the latest version, or in none");
        Pagemaze x = Check.mazeOf(0, 500, 999);
        x.remove(500);
        Check.due("least key", x.addPupil(0), 0);
        Check.due("greatest key", x.addPupil(999), 1);
        Check.due("rooms", x.whereIs(0) + " " + x.whereIs(1), "0 999");
        Check.refused("room of the version ahead", NoSuchElementException.class, x, () -> x.addPupil(500));
        x.goBack(0);
        Check.refused("no rooms", NoSuchElementException.class, x, () -> x.addPupil(0));
        Check.thrown("in none", NoSuchElementException.class, () -> x.whereIs(0));
    }

    private static void stepsOfVersions() {
        Check.sentence("A step goes through a door of the latest version, and belongs to it.");
        Pagemaze x = Check.mazeOf(10, 20, 30, 40);
        x.addPupil(20);
        Check.due("in one page", x.step(0, 'r'), 30);
        x.insert(50);
        Check.due("down, in the next version", x.step(0, 'd'), 20);
        Check.refused("door of the version ahead", UnsupportedOperationException.class, x, () -> x.step(0, 'r'));
        x.goBack(2);
        Check.due("only door of an early version again", x.step(0, 'l'), 10);
        x.goBack(5);
        Check.due("door of a late version again", Check.walk(x, 0, "rR"), 40);
        Check.due("versions", x.versionAt(0, 0) + " " + x.versionAt(0, 1) + " " + x.versionAt(0, 2) + " "
                + x.versionAt(0, 3) + " " + x.versionAt(0, 4), "4 5 6 7 7");
        Check.due("all there", x.grade(0) + " " + x.isSound(), "5 true");
    }

    private static void greatestLowerKey() {
        Check.sentence("If a room is not there in a new version, its pupils are in the room with the greatest lower"
                + " key");
        Pagemaze x = Check.mazeOf(10, 20, 30);
        x.addPupil(20);
        x.addPupil(30);
        x.remove(20);
        Check.due("first key of the page", x.whereIs(0) + " " + x.whereIs(1), "10 30");
        x.remove(30);
        Check.due("only key of the page", x.whereIs(0) + " " + x.whereIs(1), "10 10");
        Pagemaze y = Check.mazeUpTo(17);
        // (((1 2) 3 (4 5) 6 (7 8)) 9 ((10 11) 12 (13 14) 15 (16 17)))
        for (int key : new int[] {4, 7, 13, 10, 9, 17}) {
            y.addPupil(key);
        }
        Check.due("of a page above", movedBy(y, 4, 0), 3);
        Check.due("of a page above, again", movedBy(y, 7, 1), 6);
        Check.due("of the last page above", movedBy(y, 13, 2), 12);
        Check.due("of the outermost page", movedBy(y, 10, 3), 9);
        Check.due("of a page at the bottom", movedBy(y, 9, 4), 8);
        Check.due("beside", movedBy(y, 17, 5), 16);
        Pagemaze z = Check.mazeOf(0, 1, 998, 999);
        z.addPupil(999);
        z.addPupil(1);
        z.goBack(1);
        Check.due("far below", z.whereIs(0) + " " + z.whereIs(1), "0 0");
    }

    private static int movedBy(Pagemaze maze, int key, int pupil) {
        maze.remove(key);
        return maze.whereIs(pupil);
    }

    private static void leastKey() {
        Check.sentence("or, without one, that with the least key");
        Pagemaze x = Check.mazeOf(10, 20);
        x.addPupil(10);
        x.remove(10);
        Check.due("one page", x.whereIs(0), 20);
        Pagemaze y = Check.mazeUpTo(17);
        y.addPupil(1);
        y.remove(1);
        Check.due("two levels are left", y.levels(18) + " " + y.whereIs(0), "2 2");
        Pagemaze z = Check.mazeUpTo(60);
        z.addPupil(1);
        for (int key = 1; key <= 40; key++) {
            z.remove(key);
            Check.due("least key is moved to behind " + key, z.whereIs(0), key + 1);
        }
        Pagemaze w = Check.mazeOf(500, 600, 700, 800, 900, 100);
        w.addPupil(100);
        w.goBack(5);
        Check.due("by going back", w.whereIs(0), 500);
    }

    private static void noneWithoutRooms() {
        Check.sentence("or in none without rooms");
        Pagemaze x = Check.mazeOf(10);
        x.addPupil(10);
        x.addPupil(10);
        x.remove(10);
        Check.thrown("by remove", NoSuchElementException.class, () -> x.whereIs(0));
        Check.thrown("another one", NoSuchElementException.class, () -> x.whereIs(1));
        x.goBack(0);
        x.goBack(2);
        Check.thrown("in none all along", NoSuchElementException.class, () -> x.whereIs(0));
        Pagemaze y = Check.mazeUpTo(17);
        y.addPupil(9);
        y.goBack(0);
        Check.thrown("by going back", NoSuchElementException.class, () -> y.whereIs(0));
    }

    private static void asSoonAsThereIsOne() {
        Check.sentence("a pupil in none comes into the room with the least key as soon as there is one");
        Pagemaze x = emptyWithPupil();
        x.insert(999);
        Check.due("by insert", x.whereIs(0), 999);
        x.insert(0);
        Check.due("stays there", x.whereIs(0), 999);
        x.goBack(0);
        x.insert(0);
        Check.due("key 0", x.whereIs(0), 0);
        Pagemaze y = Check.mazeUpTo(53);
        for (int key : new int[] {1, 9, 27, 53}) {
            y.addPupil(key);
        }
        y.goBack(0);
        y.goBack(53);
        for (int pupil = 0; pupil < 4; pupil++) {
            Check.due("by going back to four levels: " + pupil, y.whereIs(pupil), 1);
        }
        Check.due("no step", y.steps(0) + " " + y.hints(0), "0 0");
    }

    // ---- marks ----

    private static void marksOfItsOwn() {
        Check.sentence("Returns true if it was not marked by it.");
        Pagemaze x = Check.mazeOf(0, 999);
        x.addPupil(0);
        x.addPupil(0);
        Check.due("none at first", x.marks(0) + " " + x.marks(1), "0 0");
        Check.due("room 0", x.mark(0), true);
        Check.due("room 0 again", x.mark(0), false);
        Check.due("counted once", x.marks(0) + " " + x.marks(1), "1 0");
        Check.due("by the other one", x.mark(1), true);
        x.step(0, 'r');
        Check.due("room 999", x.mark(0), true);
        Check.due("room 999 again", x.mark(0), false);
        x.wipe(0, 999);
        Check.due("after it was wiped", x.mark(0), true);
        x.insert(5);
        Check.due("in a new version", x.mark(0), false);
        Check.due("order", marksOf(x, 0) + "; " + marksOf(x, 1), "0 999; 0");
    }

    private static void marksThatAreGone() {
        Check.sentence("marks of rooms that are not there in a new version are gone");
        Pagemaze x = marked();
        Check.due("before", marksOf(x, 0), "20 30 40 10");
        x.insert(50);
        Check.due("all are there", marksOf(x, 0), "20 30 40 10");
        x.remove(20);
        Check.due("without the first one", marksOf(x, 0), "30 40 10");
        x.remove(40);
        Check.due("without one between", marksOf(x, 0), "30 10");
        x.remove(10);
        Check.due("without the last one, where the pupil was", marksOf(x, 0) + "; " + x.whereIs(0), "30; 30");
        x.insert(10);
        x.insert(20);
        Check.due("they do not come back", marksOf(x, 0), "30");
        x.goBack(5);
        Check.due("nor by going back", marksOf(x, 0), "30");
        x.goBack(2);
        Check.due("gone by going back", marksOf(x, 0), "");
        Pagemaze y = marked();
        y.goBack(0);
        Check.due("all gone", y.marks(0), 0);
        Check.thrown("no mark is left", IndexOutOfBoundsException.class, () -> y.markAt(0, 0));
        Pagemaze z = marked();
        z.goBack(2);
        z.goBack(4);
        Check.due("only those that were there all along", marksOf(z, 0), "20 10");
    }

    private static void marksInOrder() {
        Check.sentence("the index of the mark, from 0, in the order in which they were made");
        Pagemaze x = marked();
        Check.due("as made", marksOf(x, 0), "20 30 40 10");
        x.step(0, 'r');
        Check.due("marked once more", x.mark(0) + ": " + marksOf(x, 0), "false: 20 30 40 10");
        x.remove(20);
        x.insert(20);
        x.step(0, 'r');
        Check.due("made anew", x.mark(0) + ": " + marksOf(x, 0), "true: 30 40 10 20");
    }

    private static void marksWiped() {
        Check.sentence("Takes away the marks of a pupil of rooms with a key of at least this.");
        int[] least = {Integer.MIN_VALUE, -1, 0, 10, 11, 20, 21, 30, 31, 40, 41, 999, 1000, Integer.MAX_VALUE};
        String[] left = {"", "", "", "", "10", "10", "20 10", "20 10", "20 30 10", "20 30 10", "20 30 40 10",
            "20 30 40 10", "20 30 40 10", "20 30 40 10"};
        int[] taken = {4, 4, 4, 4, 3, 3, 2, 2, 1, 1, 0, 0, 0, 0};
        for (int i = 0; i < least.length; i++) {
            Pagemaze x = marked();
            x.addPupil(40);
            x.mark(1);
            Check.due("wipe(0, " + least[i] + ")", x.wipe(0, least[i]), taken[i]);
            Check.due("left behind wipe(0, " + least[i] + ")", marksOf(x, 0), left[i]);
            Check.due("once more", x.wipe(0, least[i]) + " " + x.marks(0), "0 " + (4 - taken[i]));
            Check.due("of the other one", marksOf(x, 1), "40");
        }
        Pagemaze none = emptyWithPupil();
        Check.due("no marks, in none", none.wipe(0, 0), 0);
        Pagemaze ends = Check.mazeOf(0, 999);
        ends.addPupil(0);
        ends.mark(0);
        ends.step(0, 'r');
        ends.mark(0);
        Check.due("key 999", ends.wipe(0, 999) + " " + marksOf(ends, 0), "1 0");
        Check.due("key 0", ends.wipe(0, 1) + " " + ends.wipe(0, 0), "0 1");
    }

    // ---- hints ----

    private static void hintThere() {
        Check.sentence("'.' if the pupil is there");
        Pagemaze x = Check.mazeUpTo(17);
        for (int key : new int[] {1, 8, 9, 10, 12, 17}) {
            int pupil = x.addPupil(key);
            Check.due("hint for its room " + key, x.hint(pupil, key), '.');
        }
        Pagemaze y = Check.mazeOf(0);
        y.addPupil(0);
        Check.due("only room", y.hint(0, 0), '.');
    }

    private static void hintsCounted() {
        Check.sentence("It is counted.");
        Pagemaze x = Check.mazeOf(10, 20);
        x.addPupil(10);
        x.addPupil(10);
        Check.due("none at first", x.hints(0), 0);
        x.hint(0, 20);
        x.hint(0, 20);
        x.hint(0, 10);
        Check.due("the same one, and '.', too", x.hints(0) + " " + x.hints(1), "3 0");
        Check.refused("one that is refused is not", NoSuchElementException.class, x, () -> x.hint(0, 30));
        x.goBack(0);
        Check.due("stays in none", x.hints(0), 3);
    }

    private static void hintsInOrder() {
        Check.sentence("of several the first one in the order l, r, d, e, u, U, L, R");
        TreeSet<String> ties = new TreeSet<>();
        for (int size : new int[] {4, 5, 8, 14, 17, 26}) {
            for (int room = 1; room <= size; room++) {
                Pagemaze x = Check.mazeUpTo(size);
                x.addPupil(room);
                for (int goal = 1; goal <= size; goal++) {
                    String doors = firstDoors(x, room, goal);
                    Check.due("hint from " + room + " to " + goal + " of " + size, x.hint(0, goal), doors.charAt(0));
                    for (int other = 1; other < doors.length(); other++) {
                        ties.add(doors.substring(0, 1) + doors.charAt(other));
                    }
                }
            }
        }
        Check.due("doors that are as good are met, the first one ahead", String.join(" ", ties), "UR lU ld re ru uL");
    }

    /** All first doors of shortest ways, in their order. */
    private static String firstDoors(Pagemaze maze, int room, int goal) {
        int version = maze.versions() - 1;
        int length = maze.distance(version, room, goal);
        if (length == 0) {
            return ".";
        }
        StringBuilder doors = new StringBuilder();
        for (char door : LETTERS.toCharArray()) {
            if (maze.hasDoor(version, room, door)
                    && maze.distance(version, maze.behind(version, room, door), goal) == length - 1) {
                doors.append(door);
            }
        }
        return doors.toString();
    }

    private static void hintsToTheEnds() {
        Check.sentence("A hint for a room is the first door of a shortest way to it in the latest version");
        Pagemaze x = Check.mazeOf(0, 1, 500, 998, 999);
        x.addPupil(0);
        x.addPupil(999);
        x.addPupil(500);
        Check.due("from 0 to 999", x.hint(0, 999), 'r');
        Check.due("from 999 to 0", x.hint(1, 0), 'l');
        Check.due("down to 0", x.hint(2, 0), 'd');
        Check.due("down to 999", x.hint(2, 999), 'e');
        x.goBack(2);
        Check.due("of the latest one, in one page", x.hint(1, 0) + " " + x.whereIs(1), "l 1");
        Check.refused("room of another one", NoSuchElementException.class, x, () -> x.hint(0, 999));
    }

    // ---- limits, indexes and refusals ----

    private static void twoHundredSteps() {
        Check.sentence("Throws IllegalStateException if it has made 200 steps");
        Pagemaze x = Check.mazeOf(10, 20);
        x.addPupil(10);
        x.addPupil(10);
        for (int count = 1; count <= 199; count++) {
            x.step(0, count % 2 == 1 ? 'r' : 'l');
        }
        Check.due("199 of them", x.steps(0) + " " + x.whereIs(0), "199 20");
        Check.due("the last one", x.step(0, 'l'), 10);
        Check.refused("one more", IllegalStateException.class, x, () -> x.step(0, 'r'));
        Check.due("another pupil", x.step(1, 'r') + " " + x.steps(1), "20 1");
        x.insert(30);
        Check.refused("in a new version, too", IllegalStateException.class, x, () -> x.step(0, 'r'));
        Check.due("marks and hints are not steps", x.mark(0) + " " + x.hint(0, 30), "true r");
        x.remove(10);
        Check.due("nor is a move", x.whereIs(0) + " " + x.steps(0), "20 200");
        Check.due("graded", x.grade(0) + " " + x.isSound(), "200 true");
    }

    private static void indexOfAStep() {
        Check.sentence("the index of the step, from 0");
        Pagemaze x = Check.mazeOf(10, 20, 30);
        x.addPupil(10);
        x.addPupil(30);
        Check.refused("doorAt without steps", IndexOutOfBoundsException.class, x, () -> x.doorAt(0, 0));
        Check.refused("versionAt without steps", IndexOutOfBoundsException.class, x, () -> x.versionAt(0, 0));
        Check.walk(x, 0, "rr");
        x.insert(40);
        Check.walk(x, 0, "l");
        Check.due("first", x.doorAt(0, 0) + " " + x.versionAt(0, 0), "r 3");
        Check.due("last", x.doorAt(0, 2) + " " + x.versionAt(0, 2), "l 4");
        Check.sentence("Throws IndexOutOfBoundsException if there is no such pupil or step");
        for (int index : new int[] {-1, 3, 199, 200, Integer.MIN_VALUE, Integer.MAX_VALUE}) {
            Check.refused("doorAt " + index, IndexOutOfBoundsException.class, x, () -> x.doorAt(0, index));
            Check.refused("versionAt " + index, IndexOutOfBoundsException.class, x, () -> x.versionAt(0, index));
        }
        Check.refused("doorAt of another one", IndexOutOfBoundsException.class, x, () -> x.doorAt(1, 0));
        Check.refused("versionAt of another one", IndexOutOfBoundsException.class, x, () -> x.versionAt(1, 0));
    }

    private static void indexOfAMark() {
        Check.sentence("Throws IndexOutOfBoundsException if there is no such pupil or mark");
        Pagemaze x = marked();
        Check.due("first", x.markAt(0, 0), 20);
        Check.due("last", x.markAt(0, 3), 10);
        for (int index : new int[] {-1, 4, 200, Integer.MIN_VALUE, Integer.MAX_VALUE}) {
            Check.refused("markAt " + index, IndexOutOfBoundsException.class, x, () -> x.markAt(0, index));
        }
        x.wipe(0, 40);
        Check.refused("behind those that are left", IndexOutOfBoundsException.class, x, () -> x.markAt(0, 3));
        x.remove(10);
        Check.refused("behind those that are there", IndexOutOfBoundsException.class, x, () -> x.markAt(0, 2));
        Check.due("last one then", x.markAt(0, 1), 30);
        x.addPupil(20);
        Check.refused("without marks", IndexOutOfBoundsException.class, x, () -> x.markAt(1, 0));
    }

    private static void inNone() {
        Check.sentence("Throws NoSuchElementException if it is in none");
        Pagemaze x = emptyWithPupil();
        for (char door : LETTERS.toCharArray()) {
            Check.refused("step " + door, NoSuchElementException.class, x, () -> x.step(0, door));
        }
        Check.refused("whereIs", NoSuchElementException.class, x, () -> x.whereIs(0));
        Check.refused("mark", NoSuchElementException.class, x, () -> x.mark(0));
        for (int key : new int[] {-1, 0, 20, 1000}) {
            Check.refused("hint " + key, NoSuchElementException.class, x, () -> x.hint(0, key));
        }
        Check.due("others answer", x.marks(0) + " " + x.hints(0) + " " + x.steps(0) + " " + x.wipe(0, 0) + " "
                + x.points(0) + " " + x.grade(0), "0 0 0 0 0 0");
    }

    private static void noSuchRoom() {
        Check.sentence("Throws NoSuchElementException if there is no such room");
        Pagemaze x = Check.mazeUpTo(17);
        x.addPupil(9);
        x.remove(10);
        for (int key : new int[] {-1, 0, 10, 18, 999, 1000, Integer.MIN_VALUE, Integer.MAX_VALUE}) {
            Check.refused("addPupil " + key, NoSuchElementException.class, x, () -> x.addPupil(key));
            Check.refused("hint " + key, NoSuchElementException.class, x, () -> x.hint(0, key));
        }
        Pagemaze y = new Pagemaze();
        Check.refused("addPupil without rooms", NoSuchElementException.class, y, () -> y.addPupil(0));
        Check.refused("addPupil in -1 without rooms", NoSuchElementException.class, y, () -> y.addPupil(-1));
    }

    private static void noSuchLetter() {
        Check.sentence("Throws IllegalArgumentException if there is no such letter");
        Pagemaze x = Check.mazeOf(10, 20, 30, 40, 50);
        x.addPupil(30);
        for (char letter : NO_LETTERS) {
            Check.refused("step " + (int) letter, IllegalArgumentException.class, x, () -> x.step(0, letter));
        }
    }

    private static void noSuchDoor() {
        Check.sentence("Throws UnsupportedOperationException if there is no such door");
        Pagemaze maze = Check.mazeUpTo(17);
        for (int key = 1; key <= 17; key++) {
            Pagemaze x = Check.mazeUpTo(17);
            x.addPupil(key);
            for (char door : LETTERS.toCharArray()) {
                if (!maze.hasDoor(17, key, door)) {
                    Check.refused("step " + door + " from " + key, UnsupportedOperationException.class, x,
                            () -> x.step(0, door));
                }
            }
        }
        Pagemaze only = Check.mazeOf(10);
        only.addPupil(10);
        for (char door : LETTERS.toCharArray()) {
            Check.refused("only room, " + door, UnsupportedOperationException.class, only, () -> only.step(0, door));
        }
    }

    private static void noSuchPupil() {
        Check.sentence("Throws IndexOutOfBoundsException if there is no such pupil");
        refusedForPupil(new Pagemaze(), 0);
        Pagemaze x = Check.mazeOf(10, 20);
        refusedForPupil(x, 0);
        x.addPupil(10);
        x.addPupil(10);
        for (int pupil : new int[] {-1, 2, 5, 6, Integer.MIN_VALUE, Integer.MAX_VALUE}) {
            refusedForPupil(x, pupil);
        }
        Pagemaze full = Check.mazeOf(10, 20);
        for (int count = 0; count < 6; count++) {
            full.addPupil(20);
        }
        refusedForPupil(full, -1);
        refusedForPupil(full, 6);
    }

    private static void refusedForPupil(Pagemaze x, int pupil) {
        Class<IndexOutOfBoundsException> due = IndexOutOfBoundsException.class;
        Check.refused("step of " + pupil, due, x, () -> x.step(pupil, 'r'));
        Check.refused("whereIs of " + pupil, due, x, () -> x.whereIs(pupil));
        Check.refused("mark of " + pupil, due, x, () -> x.mark(pupil));
        Check.refused("marks of " + pupil, due, x, () -> x.marks(pupil));
        Check.refused("markAt of " + pupil, due, x, () -> x.markAt(pupil, 0));
        Check.refused("wipe of " + pupil, due, x, () -> x.wipe(pupil, 0));
        Check.refused("hint of " + pupil, due, x, () -> x.hint(pupil, 10));
        Check.refused("hints of " + pupil, due, x, () -> x.hints(pupil));
        Check.refused("steps of " + pupil, due, x, () -> x.steps(pupil));
        Check.refused("doorAt of " + pupil, due, x, () -> x.doorAt(pupil, 0));
        Check.refused("versionAt of " + pupil, due, x, () -> x.versionAt(pupil, 0));
        Check.refused("points of " + pupil, due, x, () -> x.points(pupil));
        Check.refused("grade of " + pupil, due, x, () -> x.grade(pupil));
    }

    private static void firstListed() {
        Check.sentence("If several exceptions apply, the one that is listed first is thrown.");
        Pagemaze x = Check.mazeOf(10, 20);
        x.addPupil(10);
        for (int count = 0; count < 100; count++) {
            Check.walk(x, 0, "rl");
        }
        Check.refused("pupil, letter", IndexOutOfBoundsException.class, x, () -> x.step(1, 'x'));
        Check.refused("letter, door, steps", IllegalArgumentException.class, x, () -> x.step(0, 'x'));
        Check.refused("door, steps", UnsupportedOperationException.class, x, () -> x.step(0, 'l'));
        Check.refused("steps", IllegalStateException.class, x, () -> x.step(0, 'r'));
        Check.refused("hint: pupil, room", IndexOutOfBoundsException.class, x, () -> x.hint(1, 30));
        Check.refused("markAt: pupil, mark", IndexOutOfBoundsException.class, x, () -> x.markAt(1, -1));
        x.goBack(0);
        Check.refused("pupil, in none", IndexOutOfBoundsException.class, x, () -> x.step(-1, 'r'));
        Check.refused("letter, in none, steps", IllegalArgumentException.class, x, () -> x.step(0, 'x'));
        Check.refused("in none, door, steps", NoSuchElementException.class, x, () -> x.step(0, 'r'));
        Pagemaze y = Check.mazeOf(10);
        for (int count = 0; count < 6; count++) {
            y.addPupil(10);
        }
        Check.refused("addPupil: room, number", NoSuchElementException.class, y, () -> y.addPupil(20));
        Check.refused("addPupil: number", IllegalStateException.class, y, () -> y.addPupil(10));
    }
}
