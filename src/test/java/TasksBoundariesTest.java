import java.util.NoSuchElementException;

/** The boundary cases that the document's sentences on tasks and figures name, and promises 29 to 37. */
public final class TasksBoundariesTest {
    private TasksBoundariesTest() {
    }

    public static void main(String[] args) {
        numberOfTasks();
        roomsNeedNotBeThere();
        prizeOutOfRange();
        sameRooms();
        beginsByAStep();
        beginsAsItIsAdded();
        beginsWhenTheTaskIsTold();
        beginsInNoOtherWay();
        beginsAnew();
        behindAllThatAreDone();
        doneByAStepOnly();
        pointsForSteps();
        pointsForHints();
        pointsForBoth();
        shortestWayThen();
        firstRoomIsNotThere();
        prizeThatIsThere();
        versionForThePrize();
        lowestNumberFirst();
        beginningsOfADoneTask();
        beginningsOfAMovedPupil();
        openOrDone();
        noSuchTask();
        noSuchTaskOrPupil();
        lastStepOfAll();
        grades();
        noSteps();
        shareOfTurns();
        fill();
        sound();
        Check.end();
    }

    /** ((10 20) 30 (40 50)) with a pupil in room 10; both of 40 and 50 can be reached from 20. */
    private static Pagemaze maze() {
        Pagemaze x = Check.mazeOf(10, 20, 30, 40, 50);
        x.addPupil(10);
        return x;
    }

    /** Tells tasks that nobody can do, until the next one has this number. */
    private static void tellUpTo(Pagemaze maze, int number) {
        for (int count = 0; count < number; count++) {
            maze.addTask(-1, -2, 999);
        }
    }

    /** From 10 to 40 by so many steps more than the shortest way has. */
    private static String wayTo40(int more) {
        return "r" + "Ud".repeat(more / 2) + (more % 2 == 0 ? "R" : "Ue");
    }

    private static String begun(Pagemaze maze, int pupil, int tasks) {
        StringBuilder text = new StringBuilder();
        for (int task = 0; task < tasks; task++) {
            text.append(maze.hasBegun(task, pupil) ? task : "-");
        }
        return text.toString();
    }

    // ---- telling tasks ----

    private static void numberOfTasks() {
        Check.sentence("At most 8 tasks are numbered from 0");
        Pagemaze x = maze();
        for (int number = 0; number < 8; number++) {
            int next = number;
            Check.thrown("not yet told: " + number, IndexOutOfBoundsException.class, () -> x.task(next));
            Check.due("number", x.addTask(10, 40, 25), number);
            Check.due("state of " + number, x.task(number), 'o');
        }
        Check.refused("a ninth one", IllegalStateException.class, x, () -> x.addTask(10, 40, 25));
        Check.walk(x, 0, "rR");
        Check.due("all done", x.points(0) + " " + x.task(7) + " " + x.doneBy(7), "160 d 0");
        Check.refused("a ninth one, all done", IllegalStateException.class, x, () -> x.addTask(10, 40, 25));
        Check.refused("range and number", IllegalArgumentException.class, x, () -> x.addTask(10, 40, 1000));
        Check.refused("same rooms and number", IllegalArgumentException.class, x, () -> x.addTask(10, 10, 25));
    }

    private static void roomsNeedNotBeThere() {
        Check.sentence("Tells a task; both rooms need not be there.");
        int[] far = {-1, 15, 999, 1000, Integer.MIN_VALUE, Integer.MAX_VALUE};
        for (int room : far) {
            Pagemaze x = maze();
            Check.due("first " + room, x.addTask(room, 20, 25), 0);
            Check.due("last " + room, x.addTask(10, room, 25), 1);
            Check.due("begun", begun(x, 0, 2), "-1");
            x.step(0, 'r');
            Check.due("open", x.task(0) + " " + x.task(1), "o o");
        }
        Pagemaze y = new Pagemaze();
        Check.due("without rooms", y.addTask(10, 20, 30), 0);
        y.insert(10);
        y.addPupil(10);
        y.insert(20);
        y.step(0, 'r');
        Check.due("rooms that came later", y.task(0) + " " + y.points(0) + " " + y.has(3, 30), "d 20 true");
    }

    private static void prizeOutOfRange() {
        Check.sentence("Throws IllegalArgumentException if the prize is out of range, or both rooms are the same");
        Pagemaze x = maze();
        for (int prize : new int[] {-1, 1000, Integer.MIN_VALUE, Integer.MAX_VALUE}) {
            Check.refused("prize " + prize, IllegalArgumentException.class, x, () -> x.addTask(10, 20, prize));
            Check.refused("both, " + prize, IllegalArgumentException.class, x, () -> x.addTask(10, 10, prize));
        }
        x.addTask(10, 20, 0);
        x.addTask(20, 10, 999);
        Check.walk(x, 0, "rl");
        Check.due("prizes 0 and 999", Check.shape(x, 7), "((0 10 20) 30 (40 50 999))");
    }

    private static void sameRooms() {
        Check.sentence("or both rooms are the same");
        Pagemaze x = maze();
        for (int room : new int[] {10, 15, 0, -1, 1000, Integer.MIN_VALUE, Integer.MAX_VALUE}) {
            Check.refused("rooms " + room, IllegalArgumentException.class, x, () -> x.addTask(room, room, 5));
        }
    }

    // ---- beginning ----

    private static void beginsByAStep() {
        Check.sentence("When a pupil comes into the first room of a task that is open, by a step");
        Pagemaze x = maze();
        x.addTask(20, 50, 1);
        x.addTask(40, 50, 2);
        Check.due("not yet", begun(x, 0, 2), "--");
        x.step(0, 'r');
        Check.due("one of them", begun(x, 0, 2), "0-");
        x.step(0, 'R');
        Check.due("both", begun(x, 0, 2), "01");
        x.step(0, 'r');
        Check.due("both done", begun(x, 0, 2) + " " + x.task(0) + x.task(1), "-- dd");
        x.step(0, 'l');
        Check.due("not open any more", begun(x, 0, 2), "--");
    }

    private static void beginsAsItIsAdded() {
        Check.sentence("as it is added");
        Pagemaze x = maze();
        for (int task = 0; task < 8; task++) {
            x.addTask(task % 2 == 0 ? 30 : 10, 40 + task, 5);
        }
        x.addPupil(30);
        Check.due("all that begin there", begun(x, 1, 8), "0-2-4-6-");
        x.addPupil(40);
        Check.due("none", begun(x, 2, 8), "--------");
        Check.due("the other one", begun(x, 0, 8), "-1-3-5-7");
        x.step(1, 'e');
        Check.due("first one done", x.task(0), 'd');
        x.addPupil(30);
        Check.due("not the one that is done", begun(x, 3, 8), "--2-4-6-");
    }

    private static void beginsWhenTheTaskIsTold() {
        Check.sentence("or by being there when the task is told");
        Pagemaze x = maze();
        x.addPupil(20);
        x.addPupil(10);
        x.addPupil(20);
        x.addTask(20, 50, 5);
        Check.due("all that are there", begun(x, 0, 1) + begun(x, 1, 1) + begun(x, 2, 1) + begun(x, 3, 1), "-0-0");
        Pagemaze y = maze();
        y.goBack(0);
        y.addTask(-1, 10, 5);
        y.addTask(10, -1, 5);
        Check.due("one in none", begun(y, 0, 2), "--");
    }

    private static void beginsInNoOtherWay() {
        Check.sentence("by a step, as it is added, or by being there when the task is told");
        Pagemaze x = maze();
        x.addTask(20, 50, 5);
        x.remove(10);
        Check.due("a move", x.whereIs(0) + " " + begun(x, 0, 1), "20 -");
        Check.walk(x, 0, "rl");
        Check.due("a step back", begun(x, 0, 1), "0");
        Pagemaze y = maze();
        y.addTask(10, 50, 5);
        y.goBack(0);
        y.goBack(5);
        Check.due("coming from none", y.whereIs(0) + " " + begun(y, 0, 1), "10 -");
    }

    private static void beginsAnew() {
        Check.sentence("it begins this way anew");
        for (int number = 0; number < 8; number++) {
            Pagemaze x = maze();
            tellUpTo(x, number);
            x.addTask(10, 40, 25);
            x.hint(0, 40);
            x.hint(0, 40);
            Check.walk(x, 0, "rUdlrR");
            Check.due("steps and hints ahead of it, task " + number, x.points(0), 20);
            Pagemaze y = maze();
            tellUpTo(y, number);
            y.addTask(10, 40, 25);
            Check.walk(y, 0, "rUdl");
            y.hint(0, 40);
            Check.walk(y, 0, "rUdR");
            Check.due("steps and hints behind it, task " + number, y.points(0), 16);
        }
    }

    private static void behindAllThatAreDone() {
        Check.sentence("behind all tasks that are done by this step");
        Pagemaze x = maze();
        x.addTask(20, 40, 1);
        x.addTask(10, 20, 2);
        x.addTask(20, 10, 3);
        x.step(0, 'r');
        Check.due("one done, and two begun", x.task(1) + " " + begun(x, 0, 3), "d 0-2");
        x.step(0, 'l');
        Check.due("the next one done", x.task(2) + " " + begun(x, 0, 3), "d 0--");
        Check.due("points", x.points(0), 40);
        // The prize of the task that is done comes between a pupil and the last room of the next one.
        Pagemaze y = Check.mazeOf(10, 20, 30, 40);
        y.addPupil(10);
        y.addTask(10, 20, 50);
        y.addTask(20, 40, 1);
        y.step(0, 'r');
        Check.due("pages are split", Check.shape(y, 5), "((10 20) 30 (40 50))");
        y.step(0, 'R');
        Check.due("done by one step", y.points(0), 40);
    }

    // ---- doing ----

    private static void doneByAStepOnly() {
        Check.sentence("When one that has begun comes into the last room by a step, and both are unlike,"
                + " the task is done");
        Pagemaze x = maze();
        x.addTask(20, 10, 1);
        Check.due("told in the last room", x.task(0), 'o');
        x.addPupil(10);
        Check.due("added in the last room", x.task(0), 'o');
        x.addPupil(30);
        x.step(2, 'd');
        x.step(1, 'r');
        x.step(1, 'l');
        Check.due("by one that has begun", x.task(0) + " " + x.doneBy(0), "d 1");
        Pagemaze y = maze();
        y.addTask(20, 50, 1);
        y.addPupil(40);
        y.step(1, 'r');
        Check.due("by one that has not begun", y.task(0) + " " + y.points(1), "o 0");
        Pagemaze z = maze();
        z.addTask(30, 20, 1);
        z.addPupil(30);
        z.remove(30);
        // 20 came up from the page below, and the pupil into it
        Check.due("moved into the last room", z.whereIs(1) + " " + z.task(0) + " " + begun(z, 1, 1), "20 o -");
        Pagemaze w = maze();
        w.addTask(10, 50, 1);
        Check.walk(w, 0, "rR");
        Check.due("on the way", w.task(0) + " " + w.points(0), "o 0");
        w.step(0, 'r');
        Check.due("there", w.task(0) + " " + w.points(0), "d 20");
    }

    private static void pointsForSteps() {
        Check.sentence("the pupil gets 20 points, less the steps since it began the way beyond the length of a shortest"
                + " way between both");
        for (int number = 0; number < 8; number += 7) {
            for (int more = 0; more <= 24; more++) {
                Pagemaze x = maze();
                tellUpTo(x, number);
                x.addTask(10, 40, 25);
                Check.walk(x, 0, wayTo40(more));
                Check.due(more + " steps more, task " + number, x.points(0), more < 20 ? 20 - more : 0);
                Check.due("done", x.task(number), 'd');
            }
        }
    }

    private static void pointsForHints() {
        Check.sentence("less 2 for each hint since, but at least 0");
        for (int number = 0; number < 8; number += 7) {
            for (int hints = 0; hints <= 12; hints++) {
                Pagemaze x = maze();
                x.hint(0, 40);
                tellUpTo(x, number);
                x.addTask(10, 40, 25);
                for (int count = 0; count < hints; count++) {
                    x.hint(0, 10 + 10 * (count % 5));
                }
                Check.walk(x, 0, "rR");
                Check.due(hints + " hints, task " + number, x.points(0), hints < 10 ? 20 - 2 * hints : 0);
            }
        }
    }

    private static void pointsForBoth() {
        Check.sentence("but at least 0");
        int[] due = {2, 1, 0, 0, 0};
        for (int more = 0; more < due.length; more++) {
            Pagemaze x = maze();
            x.addTask(10, 20, 1);
            x.addTask(10, 40, 25);
            for (int count = 0; count < 9; count++) {
                x.hint(0, 40);
            }
            x.step(0, 'r');
            Check.due("ahead of it", x.points(0), 2);
            Check.walk(x, 0, wayTo40(more).substring(1));
            Check.due("9 hints and " + more + " steps more: nothing is taken back", x.points(0), 2 + due[more]);
        }
    }

    private static void shortestWayThen() {
        Check.sentence("in the version that there is then");
        Pagemaze x = Check.mazeOf(10, 20, 30, 40);
        x.addPupil(10);
        x.addTask(10, 40, 1);
        Check.walk(x, 0, "rr");
        x.insert(50);
        Check.due("shorter now", x.distance(4, 10, 40) + " " + x.distance(5, 10, 40), "3 2");
        x.step(0, 'e');
        Check.due("three steps", x.points(0), 19);
        Pagemaze y = Check.mazeOf(10, 40);
        y.addPupil(10);
        y.addTask(10, 40, 1);
        y.insert(20);
        y.insert(30);
        Check.walk(y, 0, "rr");
        y.remove(20);
        Check.due("shorter again", y.distance(5, 10, 40), 2);
        y.step(0, 'r');
        Check.due("three steps then", y.points(0), 19);
        Pagemaze z = Check.mazeOf(10, 20, 30);
        z.addPupil(10);
        z.addTask(10, 30, 1);
        z.step(0, 'r');
        z.insert(15);
        z.step(0, 'r');
        Check.due("longer now, and no more than 20 points", z.distance(4, 10, 30) + " " + z.points(0), "3 20");
    }

    private static void firstRoomIsNotThere() {
        Check.sentence("nothing if the first room is not there");
        Pagemaze x = maze();
        x.addTask(10, 40, 1);
        x.step(0, 'r');
        x.remove(10);
        Check.walk(x, 0, "rlrr");
        Check.due("no matter how many steps", x.points(0), 20);
        Pagemaze y = maze();
        y.addTask(10, 40, 1);
        y.step(0, 'r');
        y.hint(0, 40);
        y.remove(10);
        Check.walk(y, 0, "rr");
        Check.due("hints are paid", y.points(0), 18);
        Pagemaze z = maze();
        z.addTask(10, 40, 1);
        z.step(0, 'r');
        z.remove(10);
        z.insert(10);
        Check.walk(z, 0, "UdR");
        Check.due("it is there again", z.distance(7, 10, 40) + " " + z.points(0), "2 18");
    }

    // ---- prizes ----

    private static void prizeThatIsThere() {
        Check.sentence("and the prize is inserted, if it is not there");
        for (int prize : new int[] {10, 30, 40}) {
            Pagemaze x = maze();
            x.addTask(10, 40, prize);
            Check.walk(x, 0, "rR");
            Check.due("prize " + prize, x.versions() + " " + x.task(0) + " " + x.points(0), "6 d 20");
        }
        Pagemaze y = maze();
        y.addTask(10, 40, 60);
        y.addTask(10, 40, 60);
        Check.walk(y, 0, "rR");
        Check.due("once for both", y.versions() + " " + y.keys(6) + " " + y.points(0), "7 6 40");
        Pagemaze z = maze();
        z.addTask(10, 40, 30);
        z.remove(30);
        z.step(0, 'r');
        Check.due("there no more", Check.shape(z, 6), "(10 20 40 50)");
        z.step(0, 'r');
        Check.due("comes again", Check.shape(z, 7), "((10 20) 30 (40 50))");
    }

    private static void versionForThePrize() {
        Check.sentence("and there is room for it, and for a version");
        Pagemaze x = maze();
        x.addTask(10, 40, 60);
        while (x.versions() < 149) {
            x.goBack(5);
        }
        Check.walk(x, 0, "rR");
        Check.due("the last version", x.versions() + " " + x.has(149, 60), "150 true");
        Pagemaze y = maze();
        y.addTask(10, 40, 60);
        y.addTask(40, 50, 70);
        Check.fillVersions(y);
        Check.walk(y, 0, "rR");
        Check.due("none is left", y.versions() + " " + y.has(149, 60) + " " + y.keys(149), "150 false 5");
        Check.due("done all the same", y.task(0) + " " + y.doneBy(0) + " " + y.points(0), "d 0 20");
        Check.due("and the next one begins", begun(y, 0, 2), "-1");
        y.step(0, 'r');
        Check.due("and is done", y.task(1) + " " + y.points(0) + " " + y.isSound(), "d 40 true");
    }

    private static void lowestNumberFirst() {
        Check.sentence("Of several tasks, the one with the lowest number is looked at first.");
        Pagemaze x = maze();
        for (int task = 0; task < 8; task++) {
            x.addTask(10, 40, 900 - task);
        }
        Check.walk(x, 0, "rR");
        for (int task = 0; task < 8; task++) {
            Check.due("version of prize " + task, x.has(5 + task, 900 - task) + " " + x.has(6 + task, 900 - task),
                    "false true");
        }
        Check.due("versions", x.versions(), 14);
        // The first prize makes the way shorter by which the second task is reckoned.
        Pagemaze y = Check.mazeOf(10, 20, 30, 40);
        y.addPupil(10);
        y.addTask(10, 40, 50);
        y.addTask(10, 40, 60);
        Check.walk(y, 0, "rrr");
        Check.due("20 points and 19", y.points(0), 39);
        Pagemaze z = Check.mazeOf(10, 20, 30, 40);
        z.addPupil(10);
        z.addTask(10, 40, 5);
        z.addTask(10, 40, 50);
        Check.fillVersions(z);
        Check.walk(z, 0, "rrr");
        Check.due("without a version for the prize", z.points(0), 40);
    }

    // ---- beginnings that are gone ----

    private static void beginningsOfADoneTask() {
        Check.sentence("All beginnings of a task that is done are gone");
        for (int number = 0; number < 8; number++) {
            Pagemaze x = Check.mazeOf(10, 20, 30, 40, 50);
            tellUpTo(x, number);
            x.addTask(10, 40, 50);
            for (int pupil = 0; pupil < 6; pupil++) {
                x.addPupil(10);
            }
            Check.walk(x, 3, "rR");
            for (int pupil = 0; pupil < 6; pupil++) {
                Check.due("task " + number + " of pupil " + pupil, x.hasBegun(number, pupil), false);
            }
            Check.walk(x, 0, "rR");
            Check.due("nobody else does it", x.doneBy(number) + " " + x.points(0) + " " + x.points(3), "3 0 20");
        }
        Pagemaze y = maze();
        y.addPupil(10);
        y.addTask(10, 40, 25);
        y.addTask(10, 50, 25);
        Check.walk(y, 0, "rR");
        Check.due("those of others stay", begun(y, 0, 2) + " " + begun(y, 1, 2), "-1 -1");
    }

    private static void beginningsOfAMovedPupil() {
        Check.sentence("of a pupil that is moved, as its room is not there in a new version, all beginnings are gone");
        Pagemaze x = maze();
        x.addPupil(20);
        for (int task = 0; task < 8; task++) {
            x.addTask(task % 2 == 0 ? 10 : 20, 50, 5);
        }
        x.step(1, 'l');
        Check.due("before", begun(x, 0, 8) + " " + begun(x, 1, 8), "0-2-4-6- 01234567");
        x.step(1, 'r');
        x.insert(15);
        x.goBack(5);
        Check.due("new versions alone", begun(x, 0, 8) + " " + begun(x, 1, 8), "0-2-4-6- 01234567");
        x.remove(10);
        Check.due("one that is moved, and one that stays", begun(x, 0, 8) + " " + begun(x, 1, 8),
                "-------- 01234567");
        x.goBack(1);
        Check.due("both are moved", x.whereIs(0) + " " + x.whereIs(1) + ": " + begun(x, 0, 8) + " "
                + begun(x, 1, 8), "10 10: -------- --------");
        Pagemaze y = maze();
        y.addTask(10, 50, 5);
        y.goBack(0);
        Check.due("into none", begun(y, 0, 1), "-");
        Pagemaze z = Check.mazeOf(20, 10);
        z.addPupil(10);
        z.addTask(10, 30, 5);
        z.goBack(1);
        z.goBack(2);
        Check.due("its room comes back, without it", z.whereIs(0) + " " + begun(z, 0, 1), "20 -");
        Pagemaze w = maze();
        w.addTask(10, 40, 25);
        w.step(0, 'r');
        w.remove(20);
        w.step(0, 'r');
        w.step(0, 'r');
        Check.due("moved, it can't do it", w.whereIs(0) + " " + w.task(0) + " " + w.points(0), "40 o 0");
    }

    // ---- what is asked of tasks ----

    private static void openOrDone() {
        Check.sentence("Throws NoSuchElementException if it is open");
        Pagemaze x = maze();
        x.addTask(10, 40, 25);
        x.addTask(10, 50, 25);
        Check.refused("doneBy at first", NoSuchElementException.class, x, () -> x.doneBy(0));
        Check.walk(x, 0, "rR");
        Check.due("doneBy then", x.doneBy(0), 0);
        Check.refused("the other one", NoSuchElementException.class, x, () -> x.doneBy(1));
        x.goBack(0);
        Check.due("done for ever", x.task(0) + " " + x.doneBy(0) + " " + x.task(1), "d 0 o");
    }

    private static void noSuchTask() {
        Check.sentence("Throws IndexOutOfBoundsException if there is no such task");
        Pagemaze none = new Pagemaze();
        Check.refused("task without tasks", IndexOutOfBoundsException.class, none, () -> none.task(0));
        Check.refused("doneBy without tasks", IndexOutOfBoundsException.class, none, () -> none.doneBy(0));
        Pagemaze x = maze();
        x.addTask(10, 40, 25);
        x.addTask(10, 40, 25);
        for (int task : new int[] {-1, 2, 7, 8, Integer.MIN_VALUE, Integer.MAX_VALUE}) {
            Check.refused("task " + task, IndexOutOfBoundsException.class, x, () -> x.task(task));
            Check.refused("doneBy " + task, IndexOutOfBoundsException.class, x, () -> x.doneBy(task));
        }
        tellUpTo(x, 6);
        Check.due("number 7", x.task(7), 'o');
        Check.refused("task 8", IndexOutOfBoundsException.class, x, () -> x.task(8));
        Check.refused("doneBy 8", IndexOutOfBoundsException.class, x, () -> x.doneBy(8));
    }

    private static void noSuchTaskOrPupil() {
        Check.sentence("Throws IndexOutOfBoundsException if there is no such task or pupil");
        Pagemaze none = new Pagemaze();
        Check.refused("hasBegun without any", IndexOutOfBoundsException.class, none, () -> none.hasBegun(0, 0));
        none.addTask(1, 2, 3);
        Check.refused("hasBegun without pupils", IndexOutOfBoundsException.class, none, () -> none.hasBegun(0, 0));
        Pagemaze x = maze();
        Check.refused("hasBegun without tasks", IndexOutOfBoundsException.class, x, () -> x.hasBegun(0, 0));
        x.addTask(10, 40, 25);
        for (int number : new int[] {-1, 1, 6, 7, 8, Integer.MIN_VALUE, Integer.MAX_VALUE}) {
            Check.refused("task " + number, IndexOutOfBoundsException.class, x, () -> x.hasBegun(number, 0));
            Check.refused("pupil " + number, IndexOutOfBoundsException.class, x, () -> x.hasBegun(0, number));
            Check.refused("both " + number, IndexOutOfBoundsException.class, x, () -> x.hasBegun(number, number));
        }
        Check.due("both there", x.hasBegun(0, 0), true);
    }

    private static void lastStepOfAll() {
        Check.sentence("Throws IllegalStateException if it has made 200 steps");
        Pagemaze x = maze();
        for (int count = 0; count < 99; count++) {
            Check.walk(x, 0, "rl");
        }
        x.addTask(10, 40, 25);
        Check.walk(x, 0, "rR");
        Check.due("a task done by the last step", x.steps(0) + " " + x.task(0) + " " + x.points(0), "200 d 20");
        x.addTask(40, 50, 26);
        Check.refused("a step more, to the last room", IllegalStateException.class, x, () -> x.step(0, 'r'));
        Check.due("begun, but never done", x.hasBegun(1, 0) + " " + x.task(1), "true o");
    }

    // ---- grades and figures ----

    private static void grades() {
        Check.sentence("The grade of a pupil is how many of its steps went through a door that was there in its"
                + " version, found anew from the keys of the pages of that version.");
        Pagemaze x = Check.mazeUpTo(17);
        x.addPupil(9);
        x.addPupil(1);
        Check.due("no steps", x.grade(0) + " " + x.grade(1), "0 0");
        Check.walk(x, 0, "deuRLU");
        Check.walk(x, 1, "rl");
        for (int key = 1; key <= 17; key++) {
            x.remove(key);
        }
        Check.due("no rooms are left", x.grade(0) + " " + x.grade(1), "6 2");
        Check.fillVersions(x);
        Check.due("no versions are left", x.grade(0) + " " + x.grade(1) + " " + x.isSound(), "6 2 true");
    }

    private static void noSteps() {
        Check.sentence("Throws NoSuchElementException if there were none");
        Pagemaze x = new Pagemaze();
        Check.refused("no pupils", NoSuchElementException.class, x, x::turnShare);
        Pagemaze y = maze();
        y.addPupil(50);
        Check.refused("no steps", NoSuchElementException.class, y, y::turnShare);
        Check.refused("a step that is refused", UnsupportedOperationException.class, y, () -> y.step(0, 'u'));
        Check.refused("no steps still", NoSuchElementException.class, y, y::turnShare);
        y.step(1, 'l');
        Check.due("one step, by the other one", y.turnShare(), 0.0f);
    }

    private static void shareOfTurns() {
        Check.sentence("Returns their number divided by that of all, both converted to float.");
        Pagemaze x = maze();
        x.step(0, 'r');
        x.step(0, 'U');
        Check.due("1 of 2", x.turnShare(), 0.5f);
        x.step(0, 'd');
        Check.due("2 of 3", x.turnShare(), 2.0f / 3.0f);
        x.addPupil(40);
        Check.walk(x, 1, "LRu");
        Check.due("3 of 6", x.turnShare(), 0.5f);
        x.step(1, 'e');
        Check.due("4 of 7", x.turnShare(), 4.0f / 7.0f);
        Pagemaze all = maze();
        all.addPupil(30);
        for (int count = 0; count < 100; count++) {
            Check.walk(all, 1, "dU");
        }
        Check.due("200 of 200", all.turnShare(), 1.0f);
    }

    private static void fill() {
        Check.sentence("Returns the number of keys divided by that of pages, both converted to double.");
        Pagemaze x = new Pagemaze();
        Check.due("without keys", x.meanFill(), 0.0);
        double[] due = {1.0, 2.0, 3.0, 4.0, 5.0 / 3.0, 2.0, 7.0 / 3.0, 2.0, 9.0 / 4.0};
        for (int key = 1; key <= due.length; key++) {
            x.insert(key);
            Check.due(key + " keys", x.meanFill(), due[key - 1]);
        }
        x.goBack(0);
        Check.due("without keys again", x.meanFill(), 0.0);
    }

    private static void sound() {
        Check.sentence("Tells whether each version is a tree as told, and the grade of each pupil is the number of its"
                + " steps.");
        Check.due("new", new Pagemaze().isSound(), true);
        Pagemaze x = Check.mazeUpTo(149);
        Check.due("full", x.isSound(), true);
        Pagemaze y = maze();
        y.goBack(0);
        Check.due("without rooms", y.isSound(), true);
        Pagemaze z = Check.mazeUpTo(75);
        for (int key = 75; key > 1; key--) {
            z.remove(key);
        }
        Check.due("full, of one key", z.versions() + " " + z.keys(149) + " " + z.isSound(), "150 1 true");
    }
}
