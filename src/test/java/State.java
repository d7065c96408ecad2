/** All that a maze tells of itself, as text. */
final class State {
    private static final int KEYS = 1000;

    private State() {
    }

    static String of(Pagemaze maze) {
        StringBuilder text = new StringBuilder();
        for (int version = 0; version < maze.versions(); version++) {
            addVersion(text, maze, version);
        }
        int pupils = 0;
        while (isPupil(maze, pupils)) {
            addPupil(text, maze, pupils);
            pupils++;
        }
        for (int task = 0; isTask(maze, task); task++) {
            addTask(text, maze, task, pupils);
        }
        return text.append("turnShare ").append(Check.outcome(maze::turnShare))
                .append(" meanFill ").append(maze.meanFill())
                .append(" isSound ").append(maze.isSound()).toString();
    }

    private static boolean isPupil(Pagemaze maze, int pupil) {
        return Check.outcome(() -> maze.steps(pupil)) instanceof Integer;
    }

    private static boolean isTask(Pagemaze maze, int task) {
        return Check.outcome(() -> maze.task(task)) instanceof Character;
    }

    private static void addVersion(StringBuilder text, Pagemaze maze, int version) {
        text.append("version ").append(version).append(": keys ").append(maze.keys(version))
                .append(" pages ").append(maze.pages(version)).append(" levels ").append(maze.levels(version))
                .append(" shared ").append(maze.sharedWith(version, Math.max(0, version - 1)));
        for (int key = 0; key < KEYS; key++) {
            if (maze.has(version, key)) {
                text.append(' ').append(key).append('/').append(maze.madeIn(version, key))
                        .append('/').append(maze.doors(version, key));
            }
        }
        text.append('\n');
    }

    private static void addPupil(StringBuilder text, Pagemaze maze, int pupil) {
        text.append("pupil ").append(pupil).append(" in ").append(Check.outcome(() -> maze.whereIs(pupil)))
                .append(" hints ").append(maze.hints(pupil)).append(" points ").append(maze.points(pupil))
                .append(" grade ").append(maze.grade(pupil)).append(" marks");
        for (int index = 0; index < maze.marks(pupil); index++) {
            text.append(' ').append(maze.markAt(pupil, index));
        }
        text.append(" steps");
        for (int index = 0; index < maze.steps(pupil); index++) {
            text.append(' ').append(maze.doorAt(pupil, index)).append(maze.versionAt(pupil, index));
        }
        text.append('\n');
    }

    private static void addTask(StringBuilder text, Pagemaze maze, int task, int pupils) {
        text.append("task ").append(task).append(' ').append(maze.task(task))
                .append(" by ").append(Check.outcome(() -> maze.doneBy(task)));
        for (int pupil = 0; pupil < pupils; pupil++) {
            text.append(' ').append(maze.hasBegun(task, pupil));
        }
        text.append('\n');
    }
}
