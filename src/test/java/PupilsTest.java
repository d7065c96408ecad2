import java.util.NoSuchElementException;

/** Promises 17 to 28: pupils, their steps, marks and hints. */
public final class PupilsTest {
    private PupilsTest() {
    }

    public static void main(String[] args) {
        adding();
        addingWrong();
        stepping();
        steppingInTheLatest();
        steppingWrong();
        stepLimit();
        movedWithRooms();
        movedByGoingBack();
        withoutRooms();
        marking();
        markingMany();
        marksOfVersions();
        wiping();
        hinting();
        hintsByOrder();
        hintsWrong();
        rowsOfSteps();
        noSuchPupil();
        Check.end();
    }

    private static void adding() {
        Pagemaze x = Check.mazeOf(10, 20);
        Check.due("P17 first", x.addPupil(10), 0);
        Check.due("P17 same room", x.addPupil(10), 1);
        Check.due("P17 another room", x.addPupil(20), 2);
        Check.due("P19", x.whereIs(0) + " " + x.whereIs(1) + " " + x.whereIs(2), "10 10 20");
        Check.due("P17 new pupil", x.steps(2) + " " + x.hints(2) + " " + x.marks(2) + " " + x.points(2)
                + " " + x.grade(2), "0 0 0 0 0");
        Check.due("P17 no new version", x.versions(), 3);
    }

    private static void addingWrong() {
        Pagemaze x = Check.mazeOf(10, 20);
        x.remove(20);
        for (int key : new int[] {-1, 20, 1000, Integer.MIN_VALUE, Integer.MAX_VALUE}) {
            Check.thrown("P17 key " + key, NoSuchElementException.class, () -> x.addPupil(key));
        }
        for (int number = 0; number < 6; number++) {
            Check.due("P17 number", x.addPupil(10), number);
        }
        Check.thrown("P17 too many", IllegalStateException.class, () -> x.addPupil(10));
        Check.thrown("P17 no room and too many", NoSuchElementException.class, () -> x.addPupil(20));
        Check.thrown("P17 no seventh", IndexOutOfBoundsException.class, () -> x.whereIs(6));
        Check.thrown("P17 nobody without rooms", NoSuchElementException.class, () -> new Pagemaze().addPupil(-1));
    }

    private static void stepping() {
        // (((1 2) 3 (4 5) 6 (7 8)) 9 ((10 11) 12 (13 14) 15 (16 17)))
        Pagemaze x = Check.mazeUpTo(17);
        x.addPupil(9);
        x.addPupil(1);
        Check.due("P18 d", x.step(0, 'd'), 6);
        Check.due("P18 e", x.step(0, 'e'), 7);
        Check.due("P18 u", x.step(0, 'u'), 6);
        Check.due("P18 R", x.step(0, 'R'), 12);
        Check.due("P18 L", x.step(0, 'L'), 6);
        Check.due("P18 U", x.step(0, 'U'), 9);
        Check.due("P18 r", x.step(1, 'r'), 2);
        Check.due("P18 l", x.step(1, 'l'), 1);
        Check.due("P19", x.whereIs(0) + " " + x.whereIs(1), "9 1");
        Check.due("P26", x.steps(0) + " " + x.steps(1), "6 2");
        Check.due("P18 no new version", x.versions(), 18);
    }

    private static void steppingInTheLatest() {
        Pagemaze x = Check.mazeUpTo(5);
        x.addPupil(2);
        Check.thrown("P18 no door in it", UnsupportedOperationException.class, () -> x.step(0, 'r'));
        Check.due("P18 door in it", x.step(0, 'R'), 4);
        x.goBack(4);
        Check.due("P19 stays", x.whereIs(0), 4);
        Check.due("P18 door that is there now", x.step(0, 'l'), 3);
        Check.thrown("P18 door that is gone", UnsupportedOperationException.class, () -> x.step(0, 'd'));
        Check.due("P28", x.versionAt(0, 0) + " " + x.versionAt(0, 1), "5 6");
    }

    private static void steppingWrong() {
        Pagemaze x = Check.mazeOf(10, 20);
        x.addPupil(10);
        Check.thrown("P18 pupil below", IndexOutOfBoundsException.class, () -> x.step(-1, 'r'));
        Check.thrown("P18 pupil above", IndexOutOfBoundsException.class, () -> x.step(1, 'r'));
        Check.thrown("P18 pupil and letter", IndexOutOfBoundsException.class, () -> x.step(1, 'x'));
        for (char letter : new char[] {'x', 'D', 'E', '.', (char) 0, (char) 255, (char) 65535}) {
            Check.thrown("P18 letter " + (int) letter, IllegalArgumentException.class, () -> x.step(0, letter));
        }
        for (char door : "ldeuULR".toCharArray()) {
            Check.thrown("P18 no door " + door, UnsupportedOperationException.class, () -> x.step(0, door));
        }
        Check.due("P18 nothing changed", x.steps(0) + " " + x.whereIs(0), "0 10");
        x.goBack(0);
        Check.thrown("P18 letter, in none", IllegalArgumentException.class, () -> x.step(0, 'x'));
        Check.thrown("P18 in none", NoSuchElementException.class, () -> x.step(0, 'r'));
    }

    private static void stepLimit() {
        Pagemaze x = Check.mazeOf(10, 20);
        x.addPupil(10);
        x.addPupil(20);
        for (int count = 0; count < 100; count++) {
            Check.walk(x, 0, "rl");
        }
        Check.due("P26 most", x.steps(0), 200);
        Check.thrown("P18 too many", IllegalStateException.class, () -> x.step(0, 'r'));
        Check.thrown("P18 no door and too many", UnsupportedOperationException.class, () -> x.step(0, 'l'));
        Check.thrown("P18 letter and too many", IllegalArgumentException.class, () -> x.step(0, 'x'));
        Check.due("P18 another pupil", x.step(1, 'l'), 10);
        Check.due("P18 nothing changed", x.whereIs(0) + " " + x.steps(0) + " " + x.grade(0), "10 200 200");
        Check.due("P27 last", x.doorAt(0, 199), 'l');
        Check.due("P28 last", x.versionAt(0, 199), 2);
        Check.thrown("P27 behind the last", IndexOutOfBoundsException.class, () -> x.doorAt(0, 200));
        Check.thrown("P28 behind the last", IndexOutOfBoundsException.class, () -> x.versionAt(0, 200));
        Check.due("P37", x.isSound(), true);
        x.goBack(0);
        Check.thrown("P18 in none and too many", NoSuchElementException.class, () -> x.step(0, 'r'));
    }

    private static void movedWithRooms() {
        Pagemaze x = Check.mazeOf(10, 20, 30, 40, 50);
        for (int key = 10; key <= 50; key += 10) {
            x.addPupil(key);
        }
        x.remove(10);
        Check.due("P19 no lower one", x.whereIs(0) + " " + x.whereIs(1), "20 20");
        x.remove(40);
        Check.due("P19 greatest lower one", x.whereIs(3) + " " + x.whereIs(4), "30 50");
        x.insert(45);
        Check.due("P19 stays", x.whereIs(3) + " " + x.whereIs(4), "30 50");
        x.remove(50);
        Check.due("P19 last one", x.whereIs(4), 45);
        x.insert(50);
        Check.due("P19 does not come back", x.whereIs(4), 45);
        // The greatest lower key can be in a page above, or in one far below.
        Pagemaze y = Check.mazeUpTo(17);
        y.addPupil(10);
        y.addPupil(9);
        y.remove(10);
        Check.due("P19 above", y.whereIs(0), 9);
        y.remove(9);
        Check.due("P19 below", y.whereIs(0) + " " + y.whereIs(1), "8 8");
    }

    private static void movedByGoingBack() {
        Pagemaze x = Check.mazeOf(20, 10, 50, 40, 30);
        x.addPupil(10);
        x.addPupil(40);
        x.addPupil(30);
        x.goBack(3);
        Check.due("P19 greatest lower one there", x.whereIs(0) + " " + x.whereIs(1) + " " + x.whereIs(2), "10 20 20");
        x.goBack(1);
        Check.due("P19 least key there", x.whereIs(0) + " " + x.whereIs(1), "20 20");
        x.goBack(5);
        Check.due("P19 stays there", x.whereIs(0) + " " + x.whereIs(1), "20 20");
    }

    private static void withoutRooms() {
        Pagemaze x = Check.mazeOf(10, 20);
        x.addPupil(20);
        x.remove(10);
        x.remove(20);
        Check.thrown("P19 none", NoSuchElementException.class, () -> x.whereIs(0));
        Check.thrown("P20 none", NoSuchElementException.class, () -> x.mark(0));
        Check.thrown("P24 none", NoSuchElementException.class, () -> x.hint(0, 20));
        Check.due("P21 and others", x.marks(0) + " " + x.hints(0) + " " + x.steps(0) + " " + x.wipe(0, 0), "0 0 0 0");
        x.goBack(0);
        Check.thrown("P19 none still", NoSuchElementException.class, () -> x.whereIs(0));
        x.goBack(2);
        Check.due("P19 least key", x.whereIs(0), 10);
        x.goBack(0);
        x.insert(700);
        Check.due("P19 only key", x.whereIs(0), 700);
        x.insert(5);
        Check.due("P19 stays in it", x.whereIs(0), 700);
    }

    private static void marking() {
        Pagemaze x = Check.mazeOf(10, 20, 30);
        x.addPupil(20);
        x.addPupil(20);
        Check.due("P20 first", x.mark(0), true);
        Check.due("P20 again", x.mark(0), false);
        Check.due("P20 by another", x.mark(1), true);
        Check.walk(x, 0, "l");
        Check.due("P20 another room", x.mark(0), true);
        Check.walk(x, 0, "rr");
        Check.due("P20 third room", x.mark(0), true);
        Check.walk(x, 0, "l");
        Check.due("P20 back", x.mark(0), false);
        Check.due("P21", x.marks(0) + " " + x.marks(1), "3 1");
        Check.due("P22 order", x.markAt(0, 0) + " " + x.markAt(0, 1) + " " + x.markAt(0, 2), "20 10 30");
        Check.due("P22 another", x.markAt(1, 0), 20);
        for (int index : new int[] {-1, 3, Integer.MIN_VALUE, Integer.MAX_VALUE}) {
            Check.thrown("P22 index " + index, IndexOutOfBoundsException.class, () -> x.markAt(0, index));
        }
        Check.thrown("P22 no mark of another", IndexOutOfBoundsException.class, () -> x.markAt(1, 1));
    }

    private static void markingMany() {
        Pagemaze x = Check.mazeUpTo(60);
        x.addPupil(1);
        x.mark(0);
        int asked = 0;
        for (int key = 2; key <= 60; key++) {
            while (x.whereIs(0) != key) {
                x.step(0, x.hint(0, key));
                asked++;
            }
            Check.due("P20 room " + key, x.mark(0), true);
        }
        Check.due("P21 many", x.marks(0), 60);
        Check.due("P22 last of many", x.markAt(0, 59), 60);
        Check.due("P25 many", x.hints(0) + " " + x.steps(0), asked + " " + asked);
    }

    private static void marksOfVersions() {
        Pagemaze x = Check.mazeOf(10, 20, 30);
        x.addPupil(10);
        x.mark(0);
        Check.walk(x, 0, "r");
        x.mark(0);
        Check.walk(x, 0, "r");
        x.mark(0);
        x.insert(40);
        Check.due("P21 stay", x.marks(0), 3);
        x.remove(20);
        Check.due("P21 gone", x.marks(0), 2);
        Check.due("P22 close up", x.markAt(0, 0) + " " + x.markAt(0, 1), "10 30");
        x.insert(20);
        Check.due("P21 do not come back", x.marks(0), 2);
        Check.walk(x, 0, "l");
        Check.due("P20 not marked any more", x.mark(0), true);
        Check.due("P22 behind the others", x.markAt(0, 2), 20);
        x.goBack(1);
        Check.due("P21 gone by going back", x.marks(0) + " " + x.markAt(0, 0), "1 10");
        x.goBack(0);
        Check.due("P21 none without rooms", x.marks(0), 0);
        x.goBack(3);
        Check.due("P21 none come back", x.marks(0), 0);
    }

    private static void wiping() {
        Pagemaze x = Check.mazeOf(10, 20, 30, 40);
        x.addPupil(30);
        x.addPupil(30);
        x.mark(1);
        markAll(x);
        Check.due("P23 none that high", x.wipe(0, 41), 0);
        Check.due("P23 nothing else", x.wipe(0, Integer.MAX_VALUE), 0);
        Check.due("P23 at least this", x.wipe(0, 30), 2);
        Check.due("P23 order of the others", x.marks(0) + ": " + x.markAt(0, 0) + " " + x.markAt(0, 1), "2: 20 10");
        Check.due("P23 between", x.wipe(0, 11) + " " + x.markAt(0, 0), "1 10");
        Check.due("P23 of another one", x.marks(1), 1);
        markAll(x);
        Check.due("P23 all", x.wipe(0, 0) + " " + x.marks(0), "4 0");
        markAll(x);
        Check.due("P23 all by far", x.wipe(0, Integer.MIN_VALUE) + " " + x.wipe(0, -1), "4 0");
        Check.thrown("P23 pupil below", IndexOutOfBoundsException.class, () -> x.wipe(-1, 0));
        Check.thrown("P23 pupil above", IndexOutOfBoundsException.class, () -> x.wipe(2, 0));
    }

    /** Pupil 0, in room 30 of 10, 20, 30, 40, marks 30, 20, 10 and 40, and comes back. */
    private static void markAll(Pagemaze x) {
        x.mark(0);
        Check.walk(x, 0, "l");
        x.mark(0);
        Check.walk(x, 0, "l");
        x.mark(0);
        Check.walk(x, 0, "rrr");
        x.mark(0);
        Check.walk(x, 0, "l");
    }

    private static void hinting() {
        // (((1 2) 3 (4 5) 6 (7 8)) 9 ((10 11) 12 (13 14) 15 (16 17)))
        Pagemaze x = Check.mazeUpTo(17);
        x.addPupil(9);
        x.addPupil(2);
        Check.due("P24 down", x.hint(0, 1), 'd');
        Check.due("P24 deep", x.hint(0, 17), 'e');
        Check.due("P24 behind", x.hint(1, 5), 'R');
        Check.due("P24 upper", x.hint(1, 9), 'U');
        Check.due("P24 left", x.hint(1, 1), 'l');
        Check.due("P24 there", x.hint(1, 2), '.');
        Check.due("P25 counted, there too", x.hints(0) + " " + x.hints(1), "2 4");
        x.goBack(4);
        Check.due("P24 of the latest version", x.hint(1, 4), 'r');
        Check.thrown("P24 room of another version", NoSuchElementException.class, () -> x.hint(1, 5));
        Check.due("P24 nothing else", x.steps(1) + " " + x.whereIs(1) + " " + x.versions(), "0 2 19");
    }

    private static void hintsByOrder() {
        // ((10 20) 30 (40 50) 60 (70 80)): of the first doors of ways that are as short, the first one
        Pagemaze x = Check.mazeOf(10, 20, 30, 40, 50, 60, 70, 80);
        x.addPupil(30);
        x.addPupil(60);
        x.addPupil(40);
        x.addPupil(50);
        Check.due("P24 r ahead of e", x.hint(0, 50), 'r');
        Check.due("P24 l ahead of d", x.hint(1, 40), 'l');
        Check.due("P24 r ahead of u", x.hint(2, 60), 'r');
        Check.due("P24 l ahead of U", x.hint(3, 30), 'l');
        Check.due("P24 L alone", x.hint(2, 10), 'L');
        Check.due("P24 R alone", x.hint(3, 80), 'R');
        Check.due("P24 u alone", x.hint(2, 30), 'u');
        // (((1 2) 3 (4 5) 6 (7 8)) 9 ((10 11) 12 (13 14) 15 (16 17)))
        Pagemaze y = Check.mazeUpTo(17);
        y.addPupil(12);
        Check.due("P24 r ahead of e in the middle", y.hint(0, 14), 'r');
        Check.due("P24 L ahead of nothing", y.hint(0, 1), 'L');
    }

    private static void hintsWrong() {
        Pagemaze x = Check.mazeOf(10, 20);
        x.addPupil(10);
        for (int key : new int[] {-1, 11, 1000, Integer.MIN_VALUE, Integer.MAX_VALUE}) {
            Check.thrown("P24 key " + key, NoSuchElementException.class, () -> x.hint(0, key));
        }
        Check.thrown("P24 pupil below", IndexOutOfBoundsException.class, () -> x.hint(-1, 11));
        Check.thrown("P24 pupil above", IndexOutOfBoundsException.class, () -> x.hint(1, 11));
        Check.due("P25 nothing counted", x.hints(0), 0);
        x.goBack(0);
        Check.thrown("P24 in none", NoSuchElementException.class, () -> x.hint(0, -1));
        Check.due("P25 nothing counted in none", x.hints(0), 0);
    }

    private static void rowsOfSteps() {
        Pagemaze x = Check.mazeOf(10, 20, 30, 40, 50);
        x.addPupil(10);
        x.addPupil(50);
        Check.walk(x, 0, "rUeu");
        x.insert(60);
        Check.walk(x, 0, "dR");
        StringBuilder text = new StringBuilder();
        for (int index = 0; index < 6; index++) {
            text.append(x.doorAt(0, index)).append(x.versionAt(0, index));
        }
        Check.due("P27 and P28", text.toString(), "r5U5e5u5d6R6");
        Check.due("P26", x.steps(0) + " " + x.steps(1), "6 0");
        for (int index : new int[] {-1, 6, Integer.MIN_VALUE, Integer.MAX_VALUE}) {
            Check.thrown("P27 index " + index, IndexOutOfBoundsException.class, () -> x.doorAt(0, index));
            Check.thrown("P28 index " + index, IndexOutOfBoundsException.class, () -> x.versionAt(0, index));
        }
        Check.thrown("P27 no step", IndexOutOfBoundsException.class, () -> x.doorAt(1, 0));
        Check.thrown("P28 no step", IndexOutOfBoundsException.class, () -> x.versionAt(1, 0));
        Check.due("P28 of a step whose version brought a prize", versionOfPrizedStep(), "2 4");
    }

    private static String versionOfPrizedStep() {
        Pagemaze x = Check.mazeOf(10, 20);
        x.addPupil(10);
        x.addTask(10, 20, 15);
        x.step(0, 'r');
        return x.versionAt(0, 0) + " " + x.versions();
    }

    private static void noSuchPupil() {
        Pagemaze x = Check.mazeOf(10);
        x.addPupil(10);
        for (int pupil : new int[] {-1, 1, 6, Integer.MIN_VALUE, Integer.MAX_VALUE}) {
            Check.thrown("P19 " + pupil, IndexOutOfBoundsException.class, () -> x.whereIs(pupil));
            Check.thrown("P20 " + pupil, IndexOutOfBoundsException.class, () -> x.mark(pupil));
            Check.thrown("P21 " + pupil, IndexOutOfBoundsException.class, () -> x.marks(pupil));
            Check.thrown("P22 " + pupil, IndexOutOfBoundsException.class, () -> x.markAt(pupil, 0));
            Check.thrown("P23 " + pupil, IndexOutOfBoundsException.class, () -> x.wipe(pupil, 0));
            Check.thrown("P24 " + pupil, IndexOutOfBoundsException.class, () -> x.hint(pupil, 10));
            Check.thrown("P25 " + pupil, IndexOutOfBoundsException.class, () -> x.hints(pupil));
            Check.thrown("P26 " + pupil, IndexOutOfBoundsException.class, () -> x.steps(pupil));
            Check.thrown("P27 " + pupil, IndexOutOfBoundsException.class, () -> x.doorAt(pupil, 0));
            Check.thrown("P28 " + pupil, IndexOutOfBoundsException.class, () -> x.versionAt(pupil, 0));
        }
    }
}
