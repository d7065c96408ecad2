import java.util.NoSuchElementException;

/** Promises 29 to 34: tasks, points and grades. */
public final class TasksTest {
    private TasksTest() {
    }

    public static void main(String[] args) {
        telling();
        tellingWrong();
        doing();
        detours();
        shorterThanTheShortest();
        beginningAnew();
        hintsCost();
        withoutTheFirstRoom();
        beginnings();
        beginningsOfMovedPupils();
        beginningsOfPupilsInNone();
        beginningsOfDoneTasks();
        severalTasks();
        severalTasksInOrder();
        chainedTasks();
        prizes();
        prizeWithoutVersions();
        waysBeforeThePrize();
        roomsThatAreNone();
        noSuchTaskOrPupil();
        grading();
        Check.end();
    }

    /** ((10 20) 30 (40 50)) with a pupil in room 10 and a task from there to room 40. */
    private static Pagemaze mazeWithTask() {
        Pagemaze x = Check.mazeOf(10, 20, 30, 40, 50);
        x.addPupil(10);
        x.addTask(10, 40, 25);
        return x;
    }

    private static void telling() {
        Pagemaze x = Check.mazeOf(10, 20);
        Check.due("P29 first", x.addTask(10, 20, 0), 0);
        Check.due("P29 second", x.addTask(10, 20, 999), 1);
        Check.due("P29 rooms that are not there", x.addTask(-7, 5000, 10), 2);
        Check.due("P29 other way", x.addTask(Integer.MIN_VALUE, Integer.MAX_VALUE, 10), 3);
        Check.due("P30", x.task(0) + " " + x.task(3), "o o");
        Check.due("P29 no new version", x.versions(), 3);
        for (int number = 4; number < 8; number++) {
            Check.due("P29 number", x.addTask(1, 2, 3), number);
        }
        Check.thrown("P29 too many", IllegalStateException.class, () -> x.addTask(1, 2, 3));
        Check.thrown("P29 prize and too many", IllegalArgumentException.class, () -> x.addTask(1, 2, 1000));
        Check.thrown("P29 same and too many", IllegalArgumentException.class, () -> x.addTask(1, 1, 3));
        Check.thrown("P30 no ninth", IndexOutOfBoundsException.class, () -> x.task(8));
    }

    private static void tellingWrong() {
        Pagemaze x = Check.mazeOf(10, 20);
        for (int prize : new int[] {-1, 1000, Integer.MIN_VALUE, Integer.MAX_VALUE}) {
            Check.thrown("P29 prize " + prize, IllegalArgumentException.class, () -> x.addTask(10, 20, prize));
        }
        Check.thrown("P29 same rooms", IllegalArgumentException.class, () -> x.addTask(10, 10, 5));
        Check.thrown("P29 same rooms that are not there", IllegalArgumentException.class, () -> x.addTask(-1, -1, 5));
        Check.thrown("P29 nothing told", IndexOutOfBoundsException.class, () -> x.task(0));
    }

    private static void doing() {
        Pagemaze x = mazeWithTask();
        Check.due("P32 begun as it is told", x.hasBegun(0, 0), true);
        Check.thrown("P31 open", NoSuchElementException.class, () -> x.doneBy(0));
        x.step(0, 'r');
        Check.due("P30 open on the way", x.task(0) + " " + x.points(0), "o 0");
        Check.due("P18 into the last room", x.step(0, 'R'), 40);
        Check.due("P30 done", x.task(0), 'd');
        Check.due("P31", x.doneBy(0), 0);
        Check.due("P33 shortest way", x.points(0), 20);
        Check.due("P32 gone", x.hasBegun(0, 0), false);
        Check.due("P2 prize comes", x.versions() + " " + x.has(6, 25) + " " + x.has(5, 25), "7 true false");
        Check.due("P19 stays in the last room", x.whereIs(0), 40);
        Pagemaze y = mazeWithTask();
        y.addPupil(20);
        y.step(1, 'R');
        Check.due("P30 one that has not begun", y.task(0) + " " + y.points(1) + " " + y.versions(), "o 0 6");
        y.addPupil(10);
        Check.walk(y, 2, "rR");
        Check.due("P31 another", y.doneBy(0) + ": " + y.points(0) + " " + y.points(1) + " " + y.points(2), "2: 0 0 20");
    }

    private static void detours() {
        Pagemaze x = mazeWithTask();
        Check.walk(x, 0, "rUdR");
        Check.due("P33 two steps more", x.points(0), 18);
        Pagemaze y = mazeWithTask();
        y.step(0, 'r');
        for (int count = 0; count < 9; count++) {
            Check.walk(y, 0, "Ud");
        }
        Check.walk(y, 0, "Ue");
        Check.due("P33 nineteen steps more", y.points(0), 1);
        Pagemaze z = mazeWithTask();
        z.step(0, 'r');
        for (int count = 0; count < 15; count++) {
            Check.walk(z, 0, "Ud");
        }
        z.step(0, 'R');
        Check.due("P33 at least 0", z.points(0) + " " + z.task(0), "0 d");
    }

    private static void shorterThanTheShortest() {
        Pagemaze x = Check.mazeOf(10, 20, 30, 40);
        x.addPupil(10);
        x.addTask(10, 40, 10);
        Check.walk(x, 0, "rr");
        for (int key = 11; key < 20; key++) {
            x.insert(key);
        }
        x.hint(0, 40);
        Check.due("P15 longer now", x.distance(13, 10, 40) > 4, true);
        Check.due("P18 three steps in all", x.step(0, 'r'), 40);
        Check.due("P33 nothing is gained, a hint is paid", x.points(0), 18);
    }

    private static void beginningAnew() {
        Pagemaze x = mazeWithTask();
        x.hint(0, 40);
        Check.walk(x, 0, "rlrR");
        Check.due("P33 steps and hints ahead do not count", x.points(0), 20);
        Pagemaze y = Check.mazeOf(10, 20, 30, 40, 50);
        y.addPupil(30);
        y.hint(0, 40);
        Check.walk(y, 0, "dUd");
        y.addTask(20, 50, 1);
        Check.due("P32 as it is told", y.hasBegun(0, 0), true);
        Check.walk(y, 0, "Rr");
        Check.due("P33 counted from there", y.points(0), 20);
    }

    private static void hintsCost() {
        Pagemaze x = mazeWithTask();
        x.hint(0, 40);
        x.step(0, 'r');
        x.hint(0, 20);
        x.addPupil(10);
        x.hint(1, 40);
        x.step(0, 'R');
        Check.due("P33 two hints", x.points(0), 16);
        Pagemaze y = mazeWithTask();
        for (int count = 0; count < 9; count++) {
            y.hint(0, 40);
        }
        Check.walk(y, 0, "rUe");
        Check.due("P33 nine hints and a step", y.points(0), 1);
        Pagemaze z = mazeWithTask();
        for (int count = 0; count < 11; count++) {
            z.hint(0, 40);
        }
        Check.walk(z, 0, "rR");
        Check.due("P33 hints take no more than all", z.points(0), 0);
    }

    private static void withoutTheFirstRoom() {
        Pagemaze x = mazeWithTask();
        x.step(0, 'r');
        x.remove(10);
        // (20 30 40 50)
        Check.due("P32 one that is not moved", x.hasBegun(0, 0), true);
        Check.walk(x, 0, "rlrr");
        Check.due("P33 nothing less for steps", x.points(0), 20);
        Pagemaze y = mazeWithTask();
        y.step(0, 'r');
        y.hint(0, 50);
        y.remove(10);
        Check.walk(y, 0, "rr");
        Check.due("P33 less for hints", y.points(0), 18);
    }

    private static void beginnings() {
        Pagemaze x = Check.mazeOf(10, 20, 30, 40, 50);
        x.addTask(20, 50, 1);
        x.addTask(30, 50, 1);
        x.addPupil(20);
        x.addPupil(10);
        Check.due("P32 as it is added", x.hasBegun(0, 0) + " " + x.hasBegun(1, 0), "true false");
        Check.due("P32 not yet", x.hasBegun(0, 1), false);
        x.step(1, 'r');
        Check.due("P32 by a step", x.hasBegun(0, 1) + " " + x.hasBegun(1, 1), "true false");
        x.step(1, 'U');
        Check.due("P32 two ways", x.hasBegun(0, 1) + " " + x.hasBegun(1, 1), "true true");
        x.remove(10);
        x.goBack(5);
        Check.due("P32 stays", x.hasBegun(0, 1) + " " + x.hasBegun(1, 1), "true true");
    }

    private static void beginningsOfMovedPupils() {
        Pagemaze x = Check.mazeOf(10, 20, 30, 40, 50);
        x.addPupil(10);
        x.addPupil(10);
        x.addTask(10, 50, 1);
        x.addTask(20, 50, 1);
        x.step(1, 'r');
        x.step(1, 'U');
        x.remove(10);
        Check.due("P32 one that is moved", x.hasBegun(0, 0), false);
        Check.due("P32 a move is no step", x.whereIs(0) + " " + x.hasBegun(1, 0), "20 false");
        Check.due("P32 one that stays", x.hasBegun(0, 1) + " " + x.hasBegun(1, 1), "true true");
        x.remove(30);
        Check.due("P32 all of them", x.hasBegun(0, 1) + " " + x.hasBegun(1, 1), "false false");
    }

    private static void beginningsOfPupilsInNone() {
        Pagemaze x = Check.mazeOf(10);
        x.addPupil(10);
        x.remove(10);
        x.addTask(-1, 10, 5);
        x.addTask(10, 20, 5);
        Check.due("P32 none is no room", x.hasBegun(0, 0), false);
        x.insert(10);
        Check.due("P32 coming from none is no step", x.whereIs(0) + " " + x.hasBegun(1, 0), "10 false");
        x.insert(20);
        Check.walk(x, 0, "r");
        Check.due("P30 open", x.task(1), 'o');
    }

    private static void beginningsOfDoneTasks() {
        Pagemaze x = mazeWithTask();
        x.addPupil(10);
        x.addTask(10, 50, 2);
        Check.walk(x, 0, "rR");
        Check.due("P32 of all pupils", x.hasBegun(0, 0) + " " + x.hasBegun(0, 1), "false false");
        Check.due("P32 of other tasks", x.hasBegun(1, 0) + " " + x.hasBegun(1, 1), "true true");
        Check.walk(x, 1, "rl");
        Check.due("P32 done ones do not begin", x.hasBegun(0, 1) + " " + x.hasBegun(1, 1), "false true");
        x.addPupil(10);
        Check.due("P32 nor for new ones", x.hasBegun(0, 2) + " " + x.hasBegun(1, 2), "false true");
        Check.walk(x, 1, "rrUe");
        Check.due("P31 stays, and nothing more is got", x.whereIs(1) + ": " + x.doneBy(0) + " " + x.points(1), "40: 0 0");
    }

    private static void severalTasks() {
        Pagemaze x = mazeWithTask();
        x.addTask(20, 40, 26);
        x.addTask(40, 50, 3);
        x.addTask(10, 40, 25);
        Check.walk(x, 0, "rR");
        Check.due("P30 all done", x.task(0) + " " + x.task(1) + " " + x.task(2) + " " + x.task(3), "d d o d");
        Check.due("P33 points of all", x.points(0), 60);
        Check.due("P2 a version a prize", x.versions() + " " + x.has(6, 25) + " " + x.has(6, 26) + " "
                + x.has(7, 26), "8 true false true");
        Check.due("P32 begun behind them", x.hasBegun(2, 0), true);
    }

    private static void severalTasksInOrder() {
        Pagemaze x = Check.mazeOf(10, 20, 30);
        x.addPupil(10);
        x.addTask(10, 20, 501);
        x.addTask(10, 20, 502);
        while (x.versions() < 149) {
            x.goBack(3);
        }
        x.step(0, 'r');
        Check.due("P29 lowest number first", x.has(149, 501) + " " + x.has(149, 502), "true false");
        Check.due("P30 both done", x.task(0) + " " + x.task(1) + " " + x.points(0), "d d 40");
        Check.due("P5", x.versions(), 150);
    }

    private static void chainedTasks() {
        Pagemaze x = Check.mazeOf(10, 20, 30);
        x.addPupil(10);
        x.addTask(10, 20, 40);
        x.addTask(20, 30, 50);
        x.addTask(30, 10, 60);
        Check.walk(x, 0, "rr");
        Check.due("P30 one behind another", x.task(0) + " " + x.task(1) + " " + x.task(2), "d d o");
        Check.due("P33", x.points(0), 40);
        Check.due("P32", x.hasBegun(2, 0), true);
    }

    private static void prizes() {
        Pagemaze x = Check.mazeOf(10, 20);
        x.addPupil(10);
        x.addTask(10, 20, 10);
        x.step(0, 'r');
        Check.due("P29 prize that is there", x.versions() + " " + x.task(0) + " " + x.points(0), "3 d 20");
        x.addTask(20, 10, 999);
        x.addPupil(20);
        Check.walk(x, 1, "l");
        Check.due("P29 greatest prize", x.versions() + " " + x.has(3, 999), "4 true");
        x.addTask(10, 20, 0);
        Check.walk(x, 1, "r");
        Check.due("P29 least prize", Check.shape(x, 4), "(0 10 20 999)");
        Pagemaze y = Check.mazeOf(10, 20, 30, 40);
        y.addPupil(10);
        y.addTask(10, 20, 50);
        y.step(0, 'r');
        Check.due("P29 prize that splits", Check.shape(y, 5), "((10 20) 30 (40 50))");
        Check.due("P18 doors move", y.step(0, 'U'), 30);
    }

    private static void prizeWithoutVersions() {
        Pagemaze x = Check.mazeOf(10, 20);
        x.addPupil(10);
        x.addTask(10, 20, 15);
        Check.fillVersions(x);
        Check.due("P18 no version left", x.step(0, 'r'), 20);
        Check.due("P30 done all the same", x.task(0) + " " + x.points(0) + " " + x.doneBy(0), "d 20 0");
        Check.due("P29 no prize", x.versions() + " " + x.has(149, 15), "150 false");
        Check.due("P28", x.versionAt(0, 0), 149);
    }

    private static void waysBeforeThePrize() {
        // The first prize splits the page, and so a way of one door more is a shortest one for the second task.
        Pagemaze x = Check.mazeOf(10, 20, 30, 40);
        x.addPupil(10);
        x.addTask(20, 40, 50);
        x.addTask(10, 40, 60);
        Check.walk(x, 0, "rrlrr");
        // task 0: begun anew at 20, two steps, shortest 2; task 1: five steps, shortest 3 ahead of the prize,
        // 10 r 20 R 40 = 2 behind it
        Check.due("P15 ahead of the prize", x.distance(4, 10, 40), 3);
        Check.due("P15 behind it", x.distance(5, 10, 40), 2);
        Check.due("P33 by the version that there is then", x.points(0), 20 + 17);
    }

    private static void roomsThatAreNone() {
        Pagemaze x = Check.mazeOf(10, 20);
        x.addPupil(10);
        x.addTask(10, -1, 5);
        Check.due("P32 last room that can't be", x.hasBegun(0, 0), true);
        x.goBack(0);
        Check.due("P30 none is no last room", x.task(0), 'o');
        x.goBack(2);
        Check.walk(x, 0, "rl");
        Check.due("P32 begun anew", x.hasBegun(0, 0) + " " + x.task(0), "true o");
    }

    private static void noSuchTaskOrPupil() {
        Pagemaze x = mazeWithTask();
        for (int task : new int[] {-1, 1, 8, Integer.MIN_VALUE, Integer.MAX_VALUE}) {
            Check.thrown("P30 " + task, IndexOutOfBoundsException.class, () -> x.task(task));
            Check.thrown("P31 " + task, IndexOutOfBoundsException.class, () -> x.doneBy(task));
            Check.thrown("P32 " + task, IndexOutOfBoundsException.class, () -> x.hasBegun(task, 0));
        }
        for (int pupil : new int[] {-1, 1, 6, Integer.MIN_VALUE, Integer.MAX_VALUE}) {
            Check.thrown("P32 pupil " + pupil, IndexOutOfBoundsException.class, () -> x.hasBegun(0, pupil));
            Check.thrown("P33 pupil " + pupil, IndexOutOfBoundsException.class, () -> x.points(pupil));
            Check.thrown("P34 pupil " + pupil, IndexOutOfBoundsException.class, () -> x.grade(pupil));
        }
    }

    private static void grading() {
        Pagemaze x = Check.mazeOf(10, 20, 30, 40, 50);
        x.addPupil(10);
        x.addPupil(50);
        Check.due("P34 no steps", x.grade(0), 0);
        Check.walk(x, 0, "rR");
        x.remove(20);
        x.remove(40);
        x.goBack(0);
        x.insert(1);
        Check.due("P34 by their versions", x.grade(0) + " " + x.steps(0), "2 2");
        Check.due("P34 another one", x.grade(1), 0);
    }
}
