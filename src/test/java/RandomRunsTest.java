import java.util.Random;

/** Runs of 512 calls, drawn from fixed seeds, each answer compared with that of the model. */
public final class RandomRunsTest {
    private static final int RUNS = 1500;
    private static final int CALLS = 512;
    private static final String LETTERS = "lrdeuULR";

    private final Random random;
    private final Pagemaze maze = new Pagemaze();
    private final Model model = new Model();
    private final int run;
    private final int keyBound;
    private final int growth;

    private RandomRunsTest(int run) {
        this.run = run;
        random = new Random(run);
        keyBound = new int[] {6, 12, 40, 200, 1000}[run % 5];
        growth = new int[] {30, 45, 60, 95}[run / 5 % 4];
    }

    public static void main(String[] args) {
        int done = 0;
        int points = 0;
        for (int run = 0; run < RUNS; run++) {
            RandomRunsTest test = new RandomRunsTest(run);
            for (int call = 0; call < CALLS; call++) {
                test.call(call);
            }
            done += test.countDone();
            points += test.countPoints();
        }
        // Runs in which no task is done would tell nothing of tasks.
        Check.due("tasks are done in many runs", done > RUNS / 2 && points > 5 * done, true);
        Check.end();
    }

    private int countDone() {
        int count = 0;
        for (int task = 0; task < 8; task++) {
            int number = task;
            if (Check.outcome(() -> model.task(number)).equals('d')) {
                count++;
            }
        }
        return count;
    }

    private int countPoints() {
        int count = 0;
        for (int pupil = 0; pupil < 6; pupil++) {
            int number = pupil;
            if (Check.outcome(() -> model.points(number)) instanceof Integer points) {
                count += points;
            }
        }
        return count;
    }

    private void same(String what, Check.Call got, Check.Call want) {
        Check.due("run " + run + ": " + what, Check.outcome(got), Check.outcome(want));
    }

    private boolean chance(int percent) {
        return random.nextInt(100) < percent;
    }

    private int key() {
        if (chance(3)) {
            return new int[] {-1, 1000, Integer.MIN_VALUE, Integer.MAX_VALUE}[random.nextInt(4)];
        }
        return random.nextInt(keyBound);
    }

    private int room() {
        if (chance(10) || model.keys(model.versions() - 1) == 0) {
            return key();
        }
        int from = random.nextInt(keyBound);
        for (int count = 0; count < keyBound; count++) {
            int key = (from + count) % keyBound;
            if (model.has(model.versions() - 1, key)) {
                return key;
            }
        }
        return key();
    }

    private int version() {
        return chance(60) ? model.versions() - 1 : random.nextInt(model.versions() + 2) - 1;
    }

    private int pupil() {
        return random.nextInt(100) == 0 ? 6 : chance(3) ? -1 : random.nextInt(4);
    }

    private int taskNumber() {
        return chance(3) ? -1 : random.nextInt(9);
    }

    private char letter() {
        return chance(3) ? (char) random.nextInt(256) : LETTERS.charAt(random.nextInt(8));
    }

    private char doorOf(int pupil) {
        Object room = Check.outcome(() -> model.whereIs(pupil));
        if (chance(10) || !(room instanceof Integer)) {
            return letter();
        }
        int from = random.nextInt(8);
        for (int count = 0; count < 8; count++) {
            char door = LETTERS.charAt((from + count) % 8);
            if (model.hasDoor(model.versions() - 1, (Integer) room, door)) {
                return door;
            }
        }
        return letter();
    }

    private void call(int number) {
        int kind = random.nextInt(100);
        if (number < 30 && kind < 60) {
            insert();
        } else if (kind < 20) {
            change();
        } else if (kind < 50) {
            walk();
        } else if (kind < 60) {
            begin();
        } else if (kind < 75) {
            askTree();
        } else if (kind < 85) {
            askRooms();
        } else if (kind < 95) {
            askPupils();
        } else {
            askTasks();
        }
    }

    private void insert() {
        int key = key();
        same("insert " + key, () -> maze.insert(key), () -> model.insert(key));
    }

    private void change() {
        if (chance(5)) {
            int version = version();
            same("goBack " + version, () -> maze.goBack(version), () -> model.goBack(version));
        } else if (chance(growth)) {
            insert();
        } else {
            int key = room();
            same("remove " + key, () -> maze.remove(key), () -> model.remove(key));
        }
    }

    private void walk() {
        int pupil = pupil();
        int key = room();
        if (chance(70)) {
            char door = doorOf(pupil);
            same("step " + pupil + door, () -> maze.step(pupil, door), () -> model.step(pupil, door));
        } else if (chance(50)) {
            same("mark " + pupil, () -> maze.mark(pupil), () -> model.mark(pupil));
        } else if (chance(90)) {
            same("hint " + pupil + " " + key, () -> maze.hint(pupil, key), () -> model.hint(pupil, key));
        } else {
            same("wipe " + pupil + " " + key, () -> maze.wipe(pupil, key), () -> model.wipe(pupil, key));
        }
    }

    private void begin() {
        int first = room();
        int last = chance(5) ? first : room();
        int prize = key();
        if (chance(50)) {
            same("addPupil " + first, () -> maze.addPupil(first), () -> model.addPupil(first));
        } else {
            same("addTask " + first + " " + last + " " + prize,
                    () -> maze.addTask(first, last, prize), () -> model.addTask(first, last, prize));
        }
    }

    private void askTree() {
        int version = version();
        int other = version();
        int key = room();
        switch (random.nextInt(7)) {
            case 0 -> same("versions", maze::versions, model::versions);
            case 1 -> same("keys " + version, () -> maze.keys(version), () -> model.keys(version));
            case 2 -> same("has " + version + " " + key, () -> maze.has(version, key), () -> model.has(version, key));
            case 3 -> same("pages " + version, () -> maze.pages(version), () -> model.pages(version));
            case 4 -> same("levels " + version, () -> maze.levels(version), () -> model.levels(version));
            case 5 -> same("madeIn " + version + " " + key,
                    () -> maze.madeIn(version, key), () -> model.madeIn(version, key));
            default -> same("sharedWith " + version + " " + other,
                    () -> maze.sharedWith(version, other), () -> model.sharedWith(version, other));
        }
    }

    private void askRooms() {
        int version = version();
        int key = room();
        int other = room();
        char door = letter();
        String what = " " + version + " " + key + " " + door;
        switch (random.nextInt(5)) {
            case 0 -> same("hasDoor" + what,
                    () -> maze.hasDoor(version, key, door), () -> model.hasDoor(version, key, door));
            case 1 -> same("behind" + what,
                    () -> maze.behind(version, key, door), () -> model.behind(version, key, door));
            case 2 -> same("doors" + what, () -> maze.doors(version, key), () -> model.doors(version, key));
            case 3 -> same("distance" + what + other,
                    () -> maze.distance(version, key, other), () -> model.distance(version, key, other));
            default -> same("nameLength" + what, () -> maze.nameLength(door), () -> model.nameLength(door));
        }
    }

    private void askPupils() {
        int pupil = pupil();
        int steps = Check.outcome(() -> model.steps(pupil)) instanceof Integer count ? count : 0;
        int index = random.nextInt(steps + 2) - 1;
        int mark = random.nextInt(6) - 1;
        switch (random.nextInt(9)) {
            case 0 -> same("whereIs " + pupil, () -> maze.whereIs(pupil), () -> model.whereIs(pupil));
            case 1 -> same("marks " + pupil, () -> maze.marks(pupil), () -> model.marks(pupil));
            case 2 -> same("markAt " + pupil + " " + mark,
                    () -> maze.markAt(pupil, mark), () -> model.markAt(pupil, mark));
            case 3 -> same("hints " + pupil, () -> maze.hints(pupil), () -> model.hints(pupil));
            case 4 -> same("steps " + pupil, () -> maze.steps(pupil), () -> model.steps(pupil));
            case 5 -> same("doorAt " + pupil + " " + index,
                    () -> maze.doorAt(pupil, index), () -> model.doorAt(pupil, index));
            case 6 -> same("versionAt " + pupil + " " + index,
                    () -> maze.versionAt(pupil, index), () -> model.versionAt(pupil, index));
            case 7 -> same("points " + pupil, () -> maze.points(pupil), () -> model.points(pupil));
            default -> same("grade " + pupil, () -> maze.grade(pupil), () -> model.grade(pupil));
        }
    }

    private void askTasks() {
        int task = taskNumber();
        int pupil = pupil();
        switch (random.nextInt(6)) {
            case 0 -> same("task " + task, () -> maze.task(task), () -> model.task(task));
            case 1 -> same("doneBy " + task, () -> maze.doneBy(task), () -> model.doneBy(task));
            case 2 -> same("turnShare", maze::turnShare, model::turnShare);
            case 3 -> same("meanFill", maze::meanFill, model::meanFill);
            case 4 -> same("isSound", maze::isSound, model::isSound);
            default -> same("hasBegun " + task + " " + pupil,
                    () -> maze.hasBegun(task, pupil), () -> model.hasBegun(task, pupil));
        }
    }
}
