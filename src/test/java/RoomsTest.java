import java.util.NoSuchElementException;

/** Promises 12 to 16: rooms, doors and ways. */
public final class RoomsTest {
    private static final String LETTERS = "lrdeuULR";

    private RoomsTest() {
    }

    public static void main(String[] args) {
        doorsOfThreeLevels();
        doorsOfOnePage();
        doorsOfVersions();
        doorsLeadBothWays();
        wrongDoors();
        orderOfExceptions();
        distances();
        wrongDistances();
        nameLengths();
        Check.end();
    }

    /** The doors of a room with what is behind them, such as "r20 U30". */
    private static String doorsOf(Pagemaze maze, int version, int key) {
        StringBuilder text = new StringBuilder();
        int count = 0;
        for (char door : LETTERS.toCharArray()) {
            boolean isThere = maze.hasDoor(version, key, door);
            Object behind = Check.outcome(() -> maze.behind(version, key, door));
            Check.due("P12 and P13 agree on " + door + " of " + key, isThere, behind instanceof Integer);
            if (isThere) {
                text.append(count == 0 ? "" : " ").append(door).append(behind);
                count++;
            }
        }
        Check.due("P14 doors of " + key, maze.doors(version, key), count);
        return text.toString();
    }

    private static void doorsOfThreeLevels() {
        // (((1 2) 3 (4 5) 6 (7 8)) 9 ((10 11) 12 (13 14) 15 (16 17)))
        Pagemaze x = Check.mazeUpTo(17);
        String[] due = {
            "r2", "l1 U3 R4", "r6 d2 e4", "r5 u3 L2", "l4 U6 R7", "l3 d5 e7 U9 R12", "r8 u6 L5", "l7",
            "d6 e12",
            "r11", "l10 U12 R13", "r15 d11 e13 u9 L6", "r14 u12 L11", "l13 U15 R16", "l12 d14 e16",
            "r17 u15 L14", "l16"};
        for (int key = 1; key <= 17; key++) {
            Check.due("P13 doors of " + key, doorsOf(x, 17, key), due[key - 1]);
        }
        int[] counts = {1, 3, 3, 3, 3, 5, 3, 1, 2, 1, 3, 5, 3, 3, 3, 3, 1};
        for (int key = 1; key <= 17; key++) {
            Check.due("P14 number for " + key, x.doors(17, key), counts[key - 1]);
        }
    }

    private static void doorsOfOnePage() {
        Pagemaze x = Check.mazeOf(0, 999, 500);
        Check.due("P13 alone", doorsOf(x, 1, 0), "");
        Check.due("P14 alone", x.doors(1, 0), 0);
        Check.due("P13 least", doorsOf(x, 3, 0), "r500");
        Check.due("P13 middle", doorsOf(x, 3, 500), "l0 r999");
        Check.due("P13 greatest", doorsOf(x, 3, 999), "l500");
        Pagemaze y = Check.mazeOf(1, 2, 3, 4, 5, 6, 7, 8, 9, 10, 11, 12, 13, 14);
        // ((1 2) 3 (4 5) 6 (7 8) 9 (10 11) 12 (13 14))
        Check.due("P13 middle of four", doorsOf(y, 14, 6), "l3 r9 d5 e7");
        Pagemaze z = Check.mazeOf(10, 20, 30, 40, 50, 60, 55);
        // ((10 20) 30 (40 50 55 60)): only the ends of a page have doors that lead out
        Check.due("P13 first", doorsOf(z, 7, 40), "r50 u30 L20");
        Check.due("P13 between", doorsOf(z, 7, 50), "l40 r55");
        Check.due("P13 last", doorsOf(z, 7, 60), "l55");
        Check.due("P13 to the last key of the page below", z.behind(7, 30, 'd'), 20);
    }

    private static void doorsOfVersions() {
        Pagemaze x = Check.mazeOf(10, 20, 30, 40, 50);
        Check.due("P13 of one page", doorsOf(x, 4, 20), "l10 r30");
        Check.due("P13 of the latest", doorsOf(x, 5, 20), "l10 U30 R40");
        x.remove(10);
        Check.due("P13 of the version ahead", doorsOf(x, 5, 20), "l10 U30 R40");
        Check.due("P13 of the new one", doorsOf(x, 6, 20), "r30");
    }

    private static void doorsLeadBothWays() {
        Pagemaze x = Check.mazeUpTo(60);
        for (int key = 1; key <= 60; key++) {
            for (char door : LETTERS.toCharArray()) {
                if (x.hasDoor(60, key, door)) {
                    int other = x.behind(60, key, door);
                    int from = key;
                    Check.due("P13 back from " + other + " to " + key, LETTERS.chars().anyMatch(back ->
                            x.hasDoor(60, other, (char) back) && x.behind(60, other, (char) back) == from), true);
                }
            }
        }
    }

    private static void wrongDoors() {
        Pagemaze x = Check.mazeOf(10, 20, 30, 40, 50);
        for (char letter : new char[] {'x', 'D', 'E', '.', ' ', (char) 0, (char) 255, (char) 65535}) {
            Check.thrown("P12 letter " + (int) letter, IllegalArgumentException.class,
                    () -> x.hasDoor(5, 10, letter));
            Check.thrown("P13 letter " + (int) letter, IllegalArgumentException.class,
                    () -> x.behind(5, 10, letter));
        }
        for (int key : new int[] {-1, 11, 1000, Integer.MIN_VALUE, Integer.MAX_VALUE}) {
            Check.thrown("P12 key " + key, NoSuchElementException.class, () -> x.hasDoor(5, key, 'l'));
            Check.thrown("P13 key " + key, NoSuchElementException.class, () -> x.behind(5, key, 'l'));
            Check.thrown("P14 key " + key, NoSuchElementException.class, () -> x.doors(5, key));
        }
        for (int version : new int[] {-1, 6, Integer.MIN_VALUE, Integer.MAX_VALUE}) {
            Check.thrown("P12 version " + version, IndexOutOfBoundsException.class,
                    () -> x.hasDoor(version, 10, 'l'));
            Check.thrown("P13 version " + version, IndexOutOfBoundsException.class,
                    () -> x.behind(version, 10, 'l'));
            Check.thrown("P14 version " + version, IndexOutOfBoundsException.class, () -> x.doors(version, 10));
        }
        Check.due("P12 no door", x.hasDoor(5, 10, 'l'), false);
        Check.thrown("P13 no door", UnsupportedOperationException.class, () -> x.behind(5, 10, 'l'));
        Check.thrown("P14 room of another version", NoSuchElementException.class, () -> x.doors(0, 10));
    }

    private static void orderOfExceptions() {
        Pagemaze x = Check.mazeOf(10);
        Check.thrown("P12 all", IndexOutOfBoundsException.class, () -> x.hasDoor(2, 11, 'x'));
        Check.thrown("P12 last two", NoSuchElementException.class, () -> x.hasDoor(1, 11, 'x'));
        Check.thrown("P13 all", IndexOutOfBoundsException.class, () -> x.behind(2, 11, 'x'));
        Check.thrown("P13 room and letter", NoSuchElementException.class, () -> x.behind(1, 11, 'x'));
        Check.thrown("P13 letter", IllegalArgumentException.class, () -> x.behind(1, 10, 'x'));
        Check.thrown("P14 both", IndexOutOfBoundsException.class, () -> x.doors(2, 11));
        Check.thrown("P15 all", IndexOutOfBoundsException.class, () -> x.distance(2, 11, 12));
    }

    private static void distances() {
        // (((1 2) 3 (4 5) 6 (7 8)) 9 ((10 11) 12 (13 14) 15 (16 17)))
        Pagemaze x = Check.mazeUpTo(17);
        Check.due("P15 same", x.distance(17, 8, 8), 0);
        Check.due("P15 beside", x.distance(17, 1, 2) + " " + x.distance(17, 2, 1), "1 1");
        Check.due("P15 page beside", x.distance(17, 2, 4), 1);
        Check.due("P15 stairs", x.distance(17, 5, 6) + " " + x.distance(17, 4, 6) + " " + x.distance(17, 9, 2), "1 2 3");
        Check.due("P15 far", x.distance(17, 1, 17) + " " + x.distance(17, 17, 1), "7 7");
        Check.due("P15 over the outermost page", x.distance(17, 8, 10), 5);
        Check.due("P15 one page of that version", x.distance(4, 1, 4), 3);
        Check.due("P15 of that version", x.distance(5, 1, 5) + " " + x.distance(5, 2, 4), "3 1");
    }

    private static void wrongDistances() {
        Pagemaze x = Check.mazeOf(10, 20);
        Check.thrown("P15 version below", IndexOutOfBoundsException.class, () -> x.distance(-1, 10, 20));
        Check.thrown("P15 version above", IndexOutOfBoundsException.class, () -> x.distance(3, 10, 20));
        for (int key : new int[] {-1, 11, 1000, Integer.MIN_VALUE, Integer.MAX_VALUE}) {
            Check.thrown("P15 first " + key, NoSuchElementException.class, () -> x.distance(2, key, 20));
            Check.thrown("P15 second " + key, NoSuchElementException.class, () -> x.distance(2, 10, key));
            Check.thrown("P15 both " + key, NoSuchElementException.class, () -> x.distance(2, key, key));
        }
        Check.thrown("P15 room of another version", NoSuchElementException.class, () -> x.distance(1, 10, 20));
    }

    private static void nameLengths() {
        Pagemaze x = new Pagemaze();
        String[] names = {"left", "right", "down", "deep", "up", "upper", "before", "behind"};
        for (int i = 0; i < names.length; i++) {
            Check.due("P16 " + names[i], x.nameLength(LETTERS.charAt(i)), names[i].length());
        }
        for (int letter = 0; letter < 65536; letter++) {
            char door = (char) letter;
            if (LETTERS.indexOf(door) < 0) {
                Check.thrown("P16 letter " + letter, IllegalArgumentException.class, () -> x.nameLength(door));
            }
        }
    }
}
