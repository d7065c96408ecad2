import java.lang.reflect.Array;
import java.util.NoSuchElementException;

/** Promises 35 to 37, and what 34 and 37 answer of an object that is not sound. */
public final class FiguresTest {
    private FiguresTest() {
    }

    public static void main(String[] args) throws ReflectiveOperationException {
        turnShare();
        meanFill();
        sound();
        keysOutOfOrder();
        pagesTooSmall();
        pagesOfOtherLevels();
        firstVersionOfAll();
        stepsThroughNoDoor();
        Check.end();
    }

    private static void turnShare() {
        Pagemaze x = Check.mazeOf(10, 20, 30, 40, 50);
        Check.thrown("P35 no pupils", NoSuchElementException.class, x::turnShare);
        x.addPupil(10);
        x.addPupil(30);
        Check.thrown("P35 no steps", NoSuchElementException.class, x::turnShare);
        x.step(0, 'r');
        Check.due("P35 no turn", x.turnShare(), 0.0f);
        x.step(0, 'U');
        Check.due("P35 U", x.turnShare(), 1.0f / 2.0f);
        x.step(1, 'd');
        Check.due("P35 d, of all pupils", x.turnShare(), 2.0f / 3.0f);
        x.step(0, 'e');
        Check.due("P35 e", x.turnShare(), 3.0f / 4.0f);
        x.step(0, 'L');
        Check.due("P35 L is no turn", x.turnShare(), 3.0f / 5.0f);
        x.step(0, 'R');
        Check.due("P35 R is no turn", x.turnShare(), 3.0f / 6.0f);
        x.step(0, 'u');
        Check.due("P35 u", x.turnShare(), 4.0f / 7.0f);
        x.step(1, 'l');
        Check.due("P35 l is no turn", x.turnShare(), 4.0f / 8.0f);
        x.goBack(0);
        Check.due("P35 without rooms", x.turnShare(), 4.0f / 8.0f);
        Pagemaze y = Check.mazeOf(10, 20, 30, 40, 50);
        y.addPupil(30);
        y.step(0, 'd');
        Check.due("P35 all", y.turnShare(), 1.0f);
    }

    private static void meanFill() {
        Pagemaze x = new Pagemaze();
        Check.due("P36 no keys", x.meanFill(), 0.0);
        x.insert(1);
        Check.due("P36 one", x.meanFill(), 1.0);
        x.insert(2);
        x.insert(3);
        x.insert(4);
        Check.due("P36 full", x.meanFill(), 4.0);
        x.insert(5);
        Check.due("P36 three pages", x.meanFill(), 5.0 / 3.0);
        Pagemaze y = Check.mazeUpTo(17);
        Check.due("P36 nine pages", y.meanFill(), 17.0 / 9.0);
        y.goBack(6);
        Check.due("P36 of the latest", y.meanFill(), 2.0);
    }

    private static void sound() {
        Check.due("P37 new", new Pagemaze().isSound(), true);
        Pagemaze x = Check.mazeUpTo(70);
        x.addPupil(35);
        for (int key = 1; key <= 70; key++) {
            Check.due("P37 with less and less keys", x.isSound(), true);
            x.remove(key);
        }
        Check.due("P37 without keys", x.isSound(), true);
        Pagemaze y = Check.mazeUpTo(17);
        y.addPupil(9);
        Check.walk(y, 0, "deu");
        y.remove(9);
        y.goBack(3);
        Check.due("P37 with steps", y.isSound(), true);
    }

    // An object is never unsound by its own calls, so its fields are spoilt here by hand.

    private static void spoilRoom(Pagemaze maze, int version, int slot, int index, int key)
            throws ReflectiveOperationException {
        int[] rooms = Inside.rooms(Inside.below(Inside.root(maze, version), slot));
        int before = rooms[index];
        rooms[index] = key;
        Check.due("P37 key " + key + " at " + index + " of page " + slot, maze.isSound(), false);
        rooms[index] = before;
        Check.due("P37 mended", maze.isSound(), true);
    }

    private static void keysOutOfOrder() throws ReflectiveOperationException {
        Pagemaze x = Check.mazeOf(10, 20, 30, 40, 50);
        x.goBack(4);
        spoilRoom(x, 5, 0, 0, 20);
        spoilRoom(x, 5, 0, 0, 25);
        spoilRoom(x, 5, 0, 0, -1);
        spoilRoom(x, 5, 0, 1, 30);
        spoilRoom(x, 5, 1, 0, 30);
        spoilRoom(x, 5, 1, 1, 40);
        spoilRoom(x, 5, 1, 1, 1000);
    }

    private static void pagesTooSmall() throws ReflectiveOperationException {
        Pagemaze x = Check.mazeOf(10, 20, 30, 40, 50);
        Object page = Inside.below(Inside.root(x, 5), 1);
        Inside.setField(page, "size", 1);
        Check.due("P37 page of one key", x.isSound(), false);
        Inside.setField(page, "size", 2);
        Object root = Inside.root(x, 4);
        Inside.rooms(root)[4] = 45;
        Inside.setField(root, "size", 5);
        Check.due("P37 page of five keys", x.isSound(), false);
        Inside.setField(root, "size", 4);
        Check.due("P37 mended", x.isSound(), true);
        Inside.setField(Inside.root(x, 5), "size", 0);
        Check.due("P37 outermost page without keys", x.isSound(), false);
    }

    private static void pagesOfOtherLevels() throws ReflectiveOperationException {
        Pagemaze x = Check.mazeUpTo(17);
        Object middle = Inside.below(Inside.root(x, 17), 1);
        Object bottom = Inside.below(middle, 1);
        Array.set(Inside.field(middle, "below"), 1, null);
        Check.due("P37 page that is not there", x.isSound(), false);
        Array.set(Inside.field(middle, "below"), 1, bottom);
        Check.due("P37 mended", x.isSound(), true);
        Array.set(Inside.field(Inside.root(x, 17), "below"), 1, bottom);
        Check.due("P37 bottom page too high", x.isSound(), false);
        Array.set(Inside.field(Inside.root(x, 17), "below"), 1, middle);
        Array.set(Inside.field(bottom, "below"), 1, bottom);
        Check.due("P37 page below the bottom", x.isSound(), false);
    }

    private static void firstVersionOfAll() throws ReflectiveOperationException {
        Pagemaze x = Check.mazeOf(10);
        Array.set(Inside.field(Inside.root(x, 0), "below"), 0, Inside.root(x, 1));
        Check.due("P37 page below one without keys", x.isSound(), false);
        Array.set(Inside.field(Inside.root(x, 0), "below"), 0, null);
        Check.due("P37 mended", x.isSound(), true);
    }

    private static void stepsThroughNoDoor() throws ReflectiveOperationException {
        Pagemaze x = Check.mazeOf(10, 20, 30, 40, 50);
        x.addPupil(10);
        Check.walk(x, 0, "rUdR");
        Object pupil = Array.get(Inside.field(x, "pupils"), 0);
        spoilStep(x, pupil, "stepDoor", 0);
        spoilStep(x, pupil, "stepFrom", 30);
        spoilStep(x, pupil, "stepTo", 50);
        spoilStep(x, pupil, "stepVersion", 4);
        spoilStep(x, pupil, "stepVersion", 99);
    }

    private static void spoilStep(Pagemaze maze, Object pupil, String row, int value)
            throws ReflectiveOperationException {
        int[] values = (int[]) Inside.field(pupil, row);
        int before = values[3];
        values[3] = value;
        Check.due("P34 " + row, maze.grade(0), 3);
        Check.due("P37 " + row, maze.isSound(), false);
        values[3] = before;
        Check.due("P34 mended", maze.grade(0) + " " + maze.isSound(), "4 true");
    }
}
