import java.util.NoSuchElementException;

/**
 * The limit of 200 keys, which 150 versions are too few for: here the versions ahead are forgotten by hand, so that
 * there are some left for more keys.
 */
public final class KeyLimitTest {
    private KeyLimitTest() {
    }

    public static void main(String[] args) throws ReflectiveOperationException {
        atMost200();
        fiveLevels();
        prizes();
        ways();
        notSoundAbove200();
        downToNone();
        Check.end();
    }

    private static void makeSpace(Pagemaze maze) throws ReflectiveOperationException {
        if (maze.versions() == 150) {
            Inside.forgetVersions(maze);
        }
    }

    /** The keys from 1 on, in an order by which pages are split everywhere. */
    private static Pagemaze mazeOf(int count, int stride) throws ReflectiveOperationException {
        Pagemaze maze = new Pagemaze();
        for (int i = 0; i < count; i++) {
            makeSpace(maze);
            maze.insert(1 + i * stride % 211);
        }
        return maze;
    }

    private static int latest(Pagemaze maze) {
        return maze.versions() - 1;
    }

    private static void atMost200() throws ReflectiveOperationException {
        Check.sentence("at most 200 in a version");
        Pagemaze x = mazeOf(199, 1);
        Check.due("key 200", x.insert(900), x.versions() - 1);
        Check.due("keys", x.keys(latest(x)), 200);
        Check.sentence("Throws IllegalStateException if there are 150 versions, or 200 keys");
        Check.refused("key 201", IllegalStateException.class, x, () -> x.insert(901));
        Check.refused("one that is there", UnsupportedOperationException.class, x, () -> x.insert(900));
        Check.refused("one out of range", IllegalArgumentException.class, x, () -> x.insert(1000));
        Check.due("goBack", x.goBack(latest(x)), latest(x));
        Check.refused("key 201 then", IllegalStateException.class, x, () -> x.insert(0));
        Check.due("remove", x.remove(900), latest(x));
        Check.due("another one for it", x.insert(901), latest(x));
        Check.due("keys again", x.keys(latest(x)) + " " + x.isSound(), "200 true");
    }

    private static void fiveLevels() throws ReflectiveOperationException {
        Check.sentence("all bottom pages are at the same level");
        Check.due("160 rising keys", mazeOf(160, 1).levels(11), 4);
        Pagemaze x = mazeOf(161, 1);
        Check.due("161 rising keys", x.levels(latest(x)) + " " + x.isSound(), "5 true");
        Check.due("their pages", x.pages(latest(x)) + " " + x.sharedWith(latest(x), latest(x)), "81 81");
        x.remove(161);
        Check.due("one less", x.levels(latest(x)) + " " + x.isSound(), "4 true");
    }

    private static void prizes() throws ReflectiveOperationException {
        Check.sentence("and the prize is inserted, if it is not there and there is room for it");
        Pagemaze x = mazeOf(199, 1);
        x.addPupil(1);
        x.addTask(1, 2, 900);
        x.addTask(1, 2, 901);
        x.addTask(2, 1, 902);
        int versions = x.versions();
        x.step(0, 'r');
        Check.due("key 200 comes, and 201 does not", x.has(latest(x), 900) + " " + x.has(latest(x), 901), "true false");
        Check.due("both done", x.task(0) + " " + x.task(1) + " " + x.points(0), "d d 40");
        Check.due("one version", x.versions(), versions + 1);
        x.step(0, 'l');
        Check.due("the next one, too", x.task(2) + " " + x.points(0) + " " + x.keys(latest(x)), "d 60 200");
        Check.due("no version", x.versions(), versions + 1);
    }

    private static void ways() throws ReflectiveOperationException {
        Check.sentence("All doors can be gone through both ways, by some letter.");
        Pagemaze x = mazeOf(200, 1);
        int version = latest(x);
        x.addPupil(1);
        for (int goal = 2; goal <= 200; goal++) {
            int there = x.distance(version, 1, goal);
            Check.due("there and back, to " + goal, there > 0 && there == x.distance(version, goal, 1), true);
        }
        Check.due("hint to the farthest room", x.hint(0, 200), 'r');
        int steps = 0;
        while (x.whereIs(0) != 200) {
            x.step(0, x.hint(0, 200));
            steps++;
        }
        Check.due("steps by hints", steps, x.distance(version, 1, 200));
    }

    private static void notSoundAbove200() throws ReflectiveOperationException {
        Check.sentence("Tells whether each version is a tree as told");
        Pagemaze x = mazeOf(200, 1);
        Check.due("200 keys", x.isSound(), true);
        Object page = Inside.root(x, latest(x));
        while (Inside.below(page, 0) != null) {
            page = Inside.below(page, 0);
        }
        int[] rooms = Inside.rooms(page);
        System.arraycopy(rooms, 0, rooms, 1, 2);
        rooms[0] = 0;
        Inside.setField(page, "size", 3);
        Check.due("201 keys", x.keys(latest(x)) + " " + x.isSound(), "201 false");
    }

    private static void downToNone() throws ReflectiveOperationException {
        Check.sentence("This is done from the bottom up.");
        for (int stride : new int[] {1, 17, 100, 210}) {
            Pagemaze x = mazeOf(200, 50);
            Check.due("200 keys are sound", x.keys(latest(x)) + " " + x.isSound(), "200 true");
            int left = 200;
            for (int i = 0; i < 211; i++) {
                int key = 1 + i * stride % 211;
                makeSpace(x);
                if (x.has(latest(x), key)) {
                    x.remove(key);
                    left--;
                    Check.due("keys without " + key, x.keys(latest(x)), left);
                } else {
                    Check.thrown("not there: " + key, NoSuchElementException.class, () -> x.remove(key));
                }
                makeSpace(x);
            }
            Check.due("none are left", left + " " + x.keys(latest(x)) + " " + x.isSound(), "0 0 true");
        }
    }
}
