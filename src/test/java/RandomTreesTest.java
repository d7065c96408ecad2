import java.util.ArrayList;
import java.util.List;
import java.util.Random;

/** Trees that grow and shrink by fixed seeds; every page of every version is compared with the model's. */
public final class RandomTreesTest {
    private static final int RUNS = 120;

    private RandomTreesTest() {
    }

    public static void main(String[] args) {
        int deepest = 0;
        for (int run = 0; run < RUNS; run++) {
            deepest = Math.max(deepest, compare(run));
        }
        Check.due("trees of four levels are met", deepest >= 4, true);
        Check.end();
    }

    private static int compare(int run) {
        Random random = new Random(run);
        Pagemaze maze = new Pagemaze();
        Model model = new Model();
        int most = 10 + random.nextInt(120);
        int style = run % 3;
        List<Integer> there = new ArrayList<>();
        boolean grows = true;
        int next = style == 2 ? 999 : 0;
        while (model.versions() < 150) {
            grows = there.isEmpty() || grows && there.size() < most;
            if (grows && random.nextInt(10) < 9) {
                next = style == 0 ? random.nextInt(1000) : style == 1 ? (next + 7) % 1000 : (next + 991) % 1000;
                Integer key = next;
                if (!there.contains(key)) {
                    there.add(key);
                    Check.due("run " + run + " insert " + key, maze.insert(key), model.insert(key));
                }
            } else if (!there.isEmpty()) {
                int key = there.remove(random.nextInt(there.size()));
                Check.due("run " + run + " remove " + key, maze.remove(key), model.remove(key));
            }
        }
        int deepest = 0;
        for (int version = 0; version < 150; version++) {
            Check.due("run " + run + " version " + version, samePages(maze, model, version), true);
            deepest = Math.max(deepest, maze.levels(version));
        }
        Check.due("run " + run + " is sound", maze.isSound(), true);
        return deepest;
    }

    private static boolean samePages(Pagemaze maze, Model model, int version) {
        for (int key = 0; key < 1000; key++) {
            boolean isThere = model.has(version, key);
            if (maze.has(version, key) != isThere || isThere && !sameRoom(maze, model, version, key)) {
                return false;
            }
        }
        int ahead = Math.max(0, version - 1);
        return maze.keys(version) == model.keys(version)
                && maze.pages(version) == model.pages(version)
                && maze.levels(version) == model.levels(version)
                && maze.sharedWith(version, ahead) == model.sharedWith(version, ahead)
                && maze.sharedWith(version / 2, version) == model.sharedWith(version / 2, version);
    }

    private static boolean sameRoom(Pagemaze maze, Model model, int version, int key) {
        for (char door : "lrdeuULR".toCharArray()) {
            boolean isThere = model.hasDoor(version, key, door);
            if (maze.hasDoor(version, key, door) != isThere
                    || isThere && maze.behind(version, key, door) != model.behind(version, key, door)) {
                return false;
            }
        }
        return maze.madeIn(version, key) == model.madeIn(version, key);
    }
}
