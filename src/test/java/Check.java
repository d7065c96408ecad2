import java.util.ArrayList;
import java.util.List;

/** What the tests share: it counts the answers that are not as due, and ends the program. */
final class Check {
    private static int wrong = 0;
    private static int asked = 0;
    private static String sentence = "";

    private Check() {
    }

    /** A call whose answer, or exception, is looked at. */
    interface Call {
        Object answer();
    }

    /** The words of the document that the answers from here on are looked at for. */
    static void sentence(String words) {
        sentence = "[" + words + "] ";
    }

    static void due(String what, Object got, Object want) {
        asked++;
        if (!want.equals(got)) {
            wrong++;
            System.out.println(sentence + what + " answered " + got + ", due is " + want);
        }
    }

    static void thrown(String what, Class<? extends RuntimeException> want, Call call) {
        due(what, outcome(call), "throws." + want.getSimpleName());
    }

    /** A call that throws, and changes nothing that the maze tells. */
    static void refused(String what, Class<? extends RuntimeException> want, Pagemaze maze, Call call) {
        String before = State.of(maze);
        thrown(what, want, call);
        due(what + ": all that the maze tells behind it", State.of(maze), before);
    }

    /** The answer of a call, or the name of the very class that it throws. */
    static Object outcome(Call call) {
        try {
            return call.answer();
        } catch (RuntimeException e) {
            return "throws." + e.getClass().getSimpleName();
        }
    }

    static Pagemaze mazeOf(int... keys) {
        Pagemaze maze = new Pagemaze();
        for (int key : keys) {
            maze.insert(key);
        }
        return maze;
    }

    /** The keys from 1 on, inserted as they rise. */
    static Pagemaze mazeUpTo(int last) {
        Pagemaze maze = new Pagemaze();
        for (int key = 1; key <= last; key++) {
            maze.insert(key);
        }
        return maze;
    }

    static void fillVersions(Pagemaze maze) {
        while (maze.versions() < 150) {
            maze.goBack(maze.versions() - 1);
        }
    }

    /** Goes through several doors, and answers the last room. */
    static int walk(Pagemaze maze, int pupil, String doors) {
        int room = -1;
        for (char door : doors.toCharArray()) {
            room = maze.step(pupil, door);
        }
        return room;
    }

    static List<Integer> keysOf(Pagemaze maze, int version) {
        List<Integer> keys = new ArrayList<>();
        for (int key = 0; key < 1000; key++) {
            if (maze.has(version, key)) {
                keys.add(key);
            }
        }
        return keys;
    }

    /** A version's pages as text, such as ((1 2) 3 (4 5)), read from the doors alone. */
    static String shape(Pagemaze maze, int version) {
        if (maze.keys(version) == 0) {
            return "()";
        }
        for (int key : keysOf(maze, version)) {
            boolean isOutermost = "uULRl".chars().noneMatch(door -> maze.hasDoor(version, key, (char) door));
            if (isOutermost && isInOutermostPage(maze, version, key)) {
                return shapeFrom(maze, version, key);
            }
        }
        return "?";
    }

    private static boolean isInOutermostPage(Pagemaze maze, int version, int first) {
        int key = first;
        while (maze.hasDoor(version, key, 'r')) {
            key = maze.behind(version, key, 'r');
        }
        return !maze.hasDoor(version, key, 'U') && !maze.hasDoor(version, key, 'R');
    }

    /** The page whose first key this is, with all below. */
    private static String shapeFrom(Pagemaze maze, int version, int first) {
        StringBuilder text = new StringBuilder("(");
        int key = first;
        if (maze.hasDoor(version, key, 'd')) {
            text.append(shapeFrom(maze, version, firstOfPage(maze, version, maze.behind(version, key, 'd'))));
            text.append(' ');
        }
        while (true) {
            text.append(key);
            if (maze.hasDoor(version, key, 'e')) {
                text.append(' ').append(shapeFrom(maze, version, maze.behind(version, key, 'e')));
            }
            if (!maze.hasDoor(version, key, 'r')) {
                return text.append(')').toString();
            }
            text.append(' ');
            key = maze.behind(version, key, 'r');
        }
    }

    private static int firstOfPage(Pagemaze maze, int version, int member) {
        int key = member;
        while (maze.hasDoor(version, key, 'l')) {
            key = maze.behind(version, key, 'l');
        }
        return key;
    }

    static void end() {
        System.out.println(wrong == 0
                ? "all " + asked + " answers are as due" : wrong + " of " + asked + " answers are not as due");
        if (wrong != 0) {
            System.exit(1);
        }
    }
}
