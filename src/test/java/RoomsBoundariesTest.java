import java.util.NoSuchElementException;

/** The boundary cases that the document's sentences on rooms name, and promises 12 to 16; one function a sentence. */
public final class RoomsBoundariesTest {
    private static final String LETTERS = "lrdeuULR";
    private static final char[] NO_LETTERS =
        {'x', 'D', 'E', '.', ' ', 'o', (char) 0, (char) 255, (char) 256, (char) 65535};

    private RoomsBoundariesTest() {
    }

    public static void main(String[] args) {
        leftAndRight();
        downAndDeep();
        upAndBefore();
        upperAndBehind();
        whatIsNotThere();
        bothWays();
        leastAndGreatestKey();
        sameRoom();
        noSuchVersion();
        noSuchRoom();
        noSuchRoomForEither();
        noSuchLetter();
        noSuchDoor();
        firstListed();
        names();
        Check.end();
    }

    /** (((1 2) 3 (4 5) 6 (7 8)) 9 ((10 11) 12 (13 14) 15 (16 17 18 19))). */
    private static Pagemaze threeLevels() {
        return Check.mazeUpTo(19);
    }

    /** The keys that have a door, with what is behind it, such as "2>1 5>4". */
    private static String allWith(Pagemaze maze, int version, char door) {
        StringBuilder text = new StringBuilder();
        for (int key : Check.keysOf(maze, version)) {
            Object behind = Check.outcome(() -> maze.behind(version, key, door));
            Check.due("hasDoor and behind for " + key + door, maze.hasDoor(version, key, door),
                    !behind.equals("throws.UnsupportedOperationException"));
            if (maze.hasDoor(version, key, door)) {
                text.append(text.length() == 0 ? "" : " ").append(key).append('>').append(behind);
            }
        }
        return text.toString();
    }

    private static void leftAndRight() {
        Check.sentence("'l' and 'r' lead to the key to the left and to the right in the page");
        Pagemaze x = threeLevels();
        Check.due("l", allWith(x, 19, 'l'), "2>1 5>4 6>3 8>7 11>10 14>13 15>12 17>16 18>17 19>18");
        Check.due("r", allWith(x, 19, 'r'), "1>2 3>6 4>5 7>8 10>11 12>15 13>14 16>17 17>18 18>19");
    }

    private static void downAndDeep() {
        Check.sentence("'d' to the last key of the page below to the left of the key, 'e' to the first key of the page"
                + " below to the right of it");
        Pagemaze x = threeLevels();
        Check.due("d", allWith(x, 19, 'd'), "3>2 6>5 9>6 12>11 15>14");
        Check.due("e", allWith(x, 19, 'e'), "3>4 6>7 9>12 12>13 15>16");
    }

    private static void upAndBefore() {
        Check.sentence("from the first key of a page, 'u' to the key that is to the left of the page in the page above,"
                + " and 'L' to the last key of the page beside to the left under the same page");
        Pagemaze x = threeLevels();
        Check.due("u", allWith(x, 19, 'u'), "4>3 7>6 12>9 13>12 16>15");
        Check.due("L", allWith(x, 19, 'L'), "4>2 7>5 12>6 13>11 16>14");
    }

    private static void upperAndBehind() {
        Check.sentence("from the last key of a page, 'U' to the key to the right of it above, and 'R' to the first key"
                + " of the page beside to the right under the same page");
        Pagemaze x = threeLevels();
        Check.due("U", allWith(x, 19, 'U'), "2>3 5>6 6>9 11>12 14>15");
        Check.due("R", allWith(x, 19, 'R'), "2>4 5>7 6>12 11>13 14>16");
    }

    private static void whatIsNotThere() {
        Check.sentence("What is not there has no door.");
        Pagemaze one = Check.mazeOf(10, 20, 30, 40);
        for (char door : LETTERS.toCharArray()) {
            Check.due("only key, door " + door, one.hasDoor(1, 10, door), false);
            Check.due("first of four keys, door " + door, one.hasDoor(4, 10, door), door == 'r');
            Check.due("second of four keys, door " + door, one.hasDoor(4, 20, door), door == 'l' || door == 'r');
            Check.due("last of four keys, door " + door, one.hasDoor(4, 40, door), door == 'l');
        }
        Check.due("numbers of doors", one.doors(1, 10) + " " + one.doors(4, 10) + " " + one.doors(4, 20) + " "
                + one.doors(4, 40), "0 1 2 1");
    }

    private static void bothWays() {
        Check.sentence("All doors can be gone through both ways, by some letter.");
        int[] sizes = {2, 4, 5, 14, 17, 52, 53, 149};
        for (int size : sizes) {
            Pagemaze x = Check.mazeUpTo(size);
            for (int key = 1; key <= size; key++) {
                for (char door : LETTERS.toCharArray()) {
                    if (x.hasDoor(size, key, door)) {
                        char back = "rlUuedRL".charAt(LETTERS.indexOf(door));
                        Check.due("back through " + back + " of " + size, x.behind(size,
                                x.behind(size, key, door), back), key);
                    }
                }
            }
        }
    }

    private static void leastAndGreatestKey() {
        Check.sentence("Keys are from 0 to 999");
        Pagemaze x = Check.mazeOf(0, 1, 500, 998, 999);
        Check.due("shape", Check.shape(x, 5), "((0 1) 500 (998 999))");
        Check.due("behind", x.behind(5, 1, 'l') + " " + x.behind(5, 998, 'r'), "0 999");
        Check.due("doors", x.doors(5, 0) + " " + x.doors(5, 999), "1 1");
        Check.due("distance", x.distance(5, 0, 999) + " " + x.distance(5, 999, 0) + " " + x.distance(5, 0, 1)
                + " " + x.distance(5, 0, 0) + " " + x.distance(5, 999, 999), "3 3 1 0 0");
        Pagemaze y = Check.mazeOf(0, 999);
        Check.due("two rooms", y.distance(2, 0, 999) + " " + y.distance(2, 999, 0), "1 1");
    }

    private static void sameRoom() {
        Check.sentence("another key, or the same one");
        Pagemaze x = threeLevels();
        for (int key = 1; key <= 19; key++) {
            Check.due("distance from " + key + " to itself", x.distance(19, key, key), 0);
            for (char door : LETTERS.toCharArray()) {
                if (x.hasDoor(19, key, door)) {
                    Check.due("distance through " + door, x.distance(19, key, x.behind(19, key, door)), 1);
                }
            }
        }
        Check.due("only room", x.distance(1, 1, 1), 0);
    }

    private static void noSuchVersion() {
        Check.sentence("Throws IndexOutOfBoundsException if there is no such version");
        Pagemaze x = Check.mazeUpTo(5);
        for (int version : new int[] {-1, 6, 150, Integer.MIN_VALUE, Integer.MAX_VALUE}) {
            String what = " in " + version;
            Check.refused("hasDoor" + what, IndexOutOfBoundsException.class, x, () -> x.hasDoor(version, 1, 'r'));
            Check.refused("behind" + what, IndexOutOfBoundsException.class, x, () -> x.behind(version, 1, 'r'));
            Check.refused("doors" + what, IndexOutOfBoundsException.class, x, () -> x.doors(version, 1));
            Check.refused("distance" + what, IndexOutOfBoundsException.class, x, () -> x.distance(version, 1, 2));
        }
        Check.due("the latest one", x.hasDoor(5, 1, 'r') + " " + x.behind(5, 1, 'r') + " " + x.doors(5, 1) + " "
                + x.distance(5, 1, 2), "true 2 1 1");
        Check.due("number 1", x.hasDoor(1, 1, 'r') + " " + x.doors(1, 1) + " " + x.distance(1, 1, 1), "false 0 0");
    }

    private static void noSuchRoom() {
        Check.sentence("Throws NoSuchElementException if there is no such room in it");
        Pagemaze x = Check.mazeOf(10, 20, 30, 40, 50);
        x.remove(40);
        for (int key : new int[] {-1, 0, 9, 11, 40, 51, 999, 1000, Integer.MIN_VALUE, Integer.MAX_VALUE}) {
            String what = " of " + key;
            Check.refused("hasDoor" + what, NoSuchElementException.class, x, () -> x.hasDoor(6, key, 'l'));
            Check.refused("behind" + what, NoSuchElementException.class, x, () -> x.behind(6, key, 'l'));
            Check.refused("doors" + what, NoSuchElementException.class, x, () -> x.doors(6, key));
        }
        Check.refused("hasDoor without keys", NoSuchElementException.class, x, () -> x.hasDoor(0, 10, 'l'));
        Check.refused("behind without keys", NoSuchElementException.class, x, () -> x.behind(0, 10, 'l'));
        Check.refused("doors without keys", NoSuchElementException.class, x, () -> x.doors(0, 10));
        Check.due("room of the version ahead", x.hasDoor(5, 40, 'r') + " " + x.behind(5, 40, 'r') + " "
                + x.doors(5, 40), "true 50 3");
    }

    private static void noSuchRoomForEither() {
        Check.sentence("Throws NoSuchElementException if there is no such room in it, for either");
        Pagemaze x = Check.mazeOf(10, 20, 30, 40, 50);
        for (int key : new int[] {-1, 0, 11, 51, 1000, Integer.MIN_VALUE, Integer.MAX_VALUE}) {
            Check.refused("from " + key, NoSuchElementException.class, x, () -> x.distance(5, key, 10));
            Check.refused("to " + key, NoSuchElementException.class, x, () -> x.distance(5, 10, key));
            Check.refused("both " + key, NoSuchElementException.class, x, () -> x.distance(5, key, key));
        }
        Check.refused("from one of a later version", NoSuchElementException.class, x, () -> x.distance(4, 50, 10));
        Check.refused("to one of a later version", NoSuchElementException.class, x, () -> x.distance(4, 10, 50));
        Check.refused("without keys", NoSuchElementException.class, x, () -> x.distance(0, 10, 10));
    }

    private static void noSuchLetter() {
        Check.sentence("Throws IllegalArgumentException if there is no such letter");
        Pagemaze x = Check.mazeOf(10, 20, 30, 40, 50);
        for (char letter : NO_LETTERS) {
            String what = " letter " + (int) letter;
            Check.refused("hasDoor" + what, IllegalArgumentException.class, x, () -> x.hasDoor(5, 30, letter));
            Check.refused("behind" + what, IllegalArgumentException.class, x, () -> x.behind(5, 30, letter));
            Check.refused("nameLength" + what, IllegalArgumentException.class, x, () -> x.nameLength(letter));
        }
        for (char letter : LETTERS.toCharArray()) {
            Check.due("hasDoor " + letter, x.hasDoor(5, 30, letter), letter == 'd' || letter == 'e');
        }
    }

    private static void noSuchDoor() {
        Check.sentence("Throws UnsupportedOperationException if there is no such door");
        Pagemaze x = threeLevels();
        for (int key = 1; key <= 19; key++) {
            for (char door : LETTERS.toCharArray()) {
                int from = key;
                if (!x.hasDoor(19, key, door)) {
                    Check.thrown("behind " + door + " of " + key, UnsupportedOperationException.class,
                            () -> x.behind(19, from, door));
                }
            }
        }
        Check.refused("only room", UnsupportedOperationException.class, x, () -> x.behind(1, 1, 'r'));
        Check.refused("outermost one", UnsupportedOperationException.class, x, () -> x.behind(19, 9, 'u'));
    }

    private static void firstListed() {
        Check.sentence("If several exceptions apply, the one that is listed first is thrown.");
        Pagemaze x = Check.mazeOf(10, 20);
        Check.refused("madeIn: version, room", IndexOutOfBoundsException.class, x, () -> x.madeIn(3, 11));
        Check.refused("hasDoor: version, room", IndexOutOfBoundsException.class, x, () -> x.hasDoor(3, 11, 'l'));
        Check.refused("hasDoor: version, letter", IndexOutOfBoundsException.class, x, () -> x.hasDoor(3, 10, 'x'));
        Check.refused("hasDoor: room, letter", NoSuchElementException.class, x, () -> x.hasDoor(2, 11, 'x'));
        Check.refused("hasDoor: all", IndexOutOfBoundsException.class, x, () -> x.hasDoor(-1, 11, 'x'));
        Check.refused("behind: version, room", IndexOutOfBoundsException.class, x, () -> x.behind(3, 11, 'l'));
        Check.refused("behind: version, letter", IndexOutOfBoundsException.class, x, () -> x.behind(3, 10, 'x'));
        Check.refused("behind: room, letter", NoSuchElementException.class, x, () -> x.behind(2, 11, 'x'));
        Check.refused("behind: room, door", NoSuchElementException.class, x, () -> x.behind(2, 11, 'u'));
        Check.refused("behind: letter, door", IllegalArgumentException.class, x, () -> x.behind(2, 10, 'x'));
        Check.refused("behind: all", IndexOutOfBoundsException.class, x, () -> x.behind(-1, 11, 'x'));
        Check.refused("doors: version, room", IndexOutOfBoundsException.class, x, () -> x.doors(3, 11));
        Check.refused("distance: version, first", IndexOutOfBoundsException.class, x, () -> x.distance(3, 11, 10));
        Check.refused("distance: version, second", IndexOutOfBoundsException.class, x, () -> x.distance(3, 10, 11));
        Check.refused("distance: all", IndexOutOfBoundsException.class, x, () -> x.distance(-1, 11, 12));
    }

    private static void names() {
        Check.sentence("l left, r right, d down, e deep, u up, U upper, L before, R behind");
        Pagemaze x = new Pagemaze();
        int[] due = {4, 5, 4, 4, 2, 5, 6, 6};
        for (int i = 0; i < due.length; i++) {
            Check.due("nameLength of " + LETTERS.charAt(i), x.nameLength(LETTERS.charAt(i)), due[i]);
        }
    }
}
