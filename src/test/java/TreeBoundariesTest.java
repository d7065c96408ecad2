import java.util.NoSuchElementException;

/** The boundary cases that the document's sentences on the tree name, and promises 1 to 11; one function a sentence. */
public final class TreeBoundariesTest {
    private static final int[] FAR_VERSIONS = {-1, 150, Integer.MIN_VALUE, Integer.MAX_VALUE};

    private TreeBoundariesTest() {
    }

    public static void main(String[] args) {
        keyRange();
        keysOfAPage();
        keysOfTheOutermostPage();
        pagesBelow();
        levelOfBottomPages();
        numberOfVersions();
        firstVersion();
        latestVersion();
        whereAKeyBelongs();
        fifthKeyAtTheBottom();
        fifthKeyAbove();
        newOutermostPage();
        keyAboveGivesWay();
        twoKeysStay();
        leftLends();
        rightLends();
        pageBelowChangesSides();
        onlyUnderTheSamePage();
        mergesWithTheLeft();
        mergesWithTheRight();
        fromTheBottomUp();
        outermostGivesWay();
        pagesMadeOnTheWay();
        pagesMadeBySplits();
        pagesMadeByBorrowing();
        pagesMadeByMerging();
        veryPages();
        promises();
        Check.end();
    }

    /** The tens from 10 on, inserted as they rise; one can put keys between them. */
    private static Pagemaze tensUpTo(int last) {
        Pagemaze maze = new Pagemaze();
        for (int key = 10; key <= last; key += 10) {
            maze.insert(key);
        }
        return maze;
    }

    private static Pagemaze fallingFrom(int first) {
        Pagemaze maze = new Pagemaze();
        for (int key = first; key >= 1; key--) {
            maze.insert(key);
        }
        return maze;
    }

    private static String latestShape(Pagemaze maze) {
        return Check.shape(maze, maze.versions() - 1);
    }

    private static String afterInserts(Pagemaze maze, int... keys) {
        for (int key : keys) {
            maze.insert(key);
        }
        return latestShape(maze);
    }

    private static String afterRemoves(Pagemaze maze, int... keys) {
        for (int key : keys) {
            maze.remove(key);
        }
        return latestShape(maze);
    }

    /** In which versions the pages of these keys of the latest version were made. */
    private static String made(Pagemaze maze, int... keys) {
        StringBuilder text = new StringBuilder();
        for (int key : keys) {
            text.append(text.length() == 0 ? "" : " ").append(maze.madeIn(maze.versions() - 1, key));
        }
        return text.toString();
    }

    /** How many pages of the latest version are not those of the version ahead. */
    private static int newPages(Pagemaze maze) {
        int latest = maze.versions() - 1;
        return maze.pages(latest) - maze.sharedWith(latest, latest - 1);
    }

    // ---- the tree ----

    private static void keyRange() {
        Check.sentence("Keys are from 0 to 999");
        Pagemaze x = new Pagemaze();
        Check.due("insert(0)", x.insert(0), 1);
        Check.due("insert(999)", x.insert(999), 2);
        Check.due("both", Check.shape(x, 2), "(0 999)");
        for (int key : new int[] {-1, 1000, Integer.MIN_VALUE, Integer.MAX_VALUE}) {
            Check.refused("insert(" + key + ")", IllegalArgumentException.class, x, () -> x.insert(key));
        }
        Check.due("remove(0)", x.remove(0), 3);
        Check.due("remove(999)", x.remove(999), 4);
    }

    private static void keysOfAPage() {
        Check.sentence("A page has 2 to 4 keys, rising");
        Pagemaze x = Check.mazeOf(50, 40, 30, 20, 10);
        Check.due("two keys each", latestShape(x), "((10 20) 30 (40 50))");
        Check.due("four keys each", afterInserts(x, 35, 25, 45, 15), "((10 15 20 25) 30 (35 40 45 50))");
        Check.due("keys above, too", latestShape(Check.mazeUpTo(14)),
                "((1 2) 3 (4 5) 6 (7 8) 9 (10 11) 12 (13 14))");
    }

    private static void keysOfTheOutermostPage() {
        Check.sentence("the outermost page 1 to 4, or none if there are no keys");
        Pagemaze x = Check.mazeOf(40, 10, 30, 20);
        String[] due = {"()", "(40)", "(10 40)", "(10 30 40)", "(10 20 30 40)"};
        for (int version = 0; version < due.length; version++) {
            Check.due("version " + version, Check.shape(x, version), due[version]);
        }
        Check.due("one key above", latestShape(Check.mazeUpTo(5)), "((1 2) 3 (4 5))");
        Check.due("one key left", afterRemoves(x, 10, 40, 20), "(30)");
        Check.due("none left", afterRemoves(x, 30), "()");
    }

    private static void pagesBelow() {
        Check.sentence("a page that is not at the bottom has one page below more than keys");
        int[] sizes = {5, 8, 11, 14};
        for (int above = 1; above <= 4; above++) {
            Pagemaze x = Check.mazeUpTo(sizes[above - 1]);
            int latest = x.versions() - 1;
            Check.due("pages for " + above + " keys above", x.pages(latest), 1 + above + 1);
            for (int key = 3; key <= 3 * above; key += 3) {
                Check.due("key " + key, x.behind(latest, key, 'd') + " " + x.behind(latest, key, 'e'),
                        (key - 1) + " " + (key + 1));
            }
        }
    }

    private static void levelOfBottomPages() {
        Check.sentence("all bottom pages are at the same level");
        for (int last = 1; last <= 149; last += 4) {
            bottomsAreLevel(Check.mazeUpTo(last));
            bottomsAreLevel(fallingFrom(last));
        }
        Pagemaze x = Check.mazeUpTo(74);
        for (int key = 1; key <= 74; key += 2) {
            x.remove(key);
            bottomsAreLevel(x);
        }
    }

    private static void bottomsAreLevel(Pagemaze maze) {
        String shape = latestShape(maze);
        int levels = maze.levels(maze.versions() - 1);
        int depth = 0;
        boolean opened = false;
        for (char sign : shape.toCharArray()) {
            if (sign == ')' && opened) {
                Check.due("level of a bottom page of " + shape, depth, levels);
            }
            opened = sign == '(' || opened && sign != ')';
            depth += sign == '(' ? 1 : sign == ')' ? -1 : 0;
        }
    }

    private static void numberOfVersions() {
        Check.sentence("At most 150 versions are numbered from 0");
        Pagemaze x = Check.mazeOf(10, 20);
        while (x.versions() < 149) {
            x.goBack(2);
        }
        Check.due("the last one", x.insert(30), 149);
        Check.due("their number", x.versions(), 150);
        Check.due("number 149", x.keys(149), 3);
        Check.thrown("number 150", IndexOutOfBoundsException.class, () -> x.keys(150));
        Check.refused("insert", IllegalStateException.class, x, () -> x.insert(40));
        Check.refused("remove", IllegalStateException.class, x, () -> x.remove(10));
        Check.refused("goBack", IllegalStateException.class, x, () -> x.goBack(0));
        Pagemaze y = Check.mazeUpTo(148);
        Check.due("the last one by remove", y.remove(74), 149);
        Pagemaze z = Check.mazeUpTo(148);
        Check.due("the last one by goBack", z.goBack(0), 149);
    }

    private static void firstVersion() {
        Check.sentence("the first one being without keys");
        Pagemaze x = Check.mazeUpTo(30);
        x.remove(1);
        Check.due("number 0", x.keys(0) + " " + x.pages(0) + " " + x.levels(0), "0 1 1");
        for (int key = -1; key <= 1000; key++) {
            Check.due("key " + key, x.has(0, key), false);
        }
    }

    private static void latestVersion() {
        Check.sentence("what is asked without a version is asked of the latest one");
        Pagemaze x = Check.mazeOf(10, 20, 30, 40, 50);
        x.goBack(2);
        Check.due("meanFill", x.meanFill(), 2.0);
        Check.thrown("remove of another one's", NoSuchElementException.class, () -> x.remove(30));
        Check.thrown("insert of its own", UnsupportedOperationException.class, () -> x.insert(20));
        Check.thrown("addPupil in another one's", NoSuchElementException.class, () -> x.addPupil(30));
        x.addPupil(10);
        Check.thrown("hint for another one's", NoSuchElementException.class, () -> x.hint(0, 30));
        Check.due("insert of another one's", x.insert(30), 7);
        Check.due("shape", Check.shape(x, 7), "(10 20 30)");
    }

    // ---- inserting ----

    private static void whereAKeyBelongs() {
        Check.sentence("A key comes into the bottom page where it belongs.");
        Pagemaze x = Check.mazeOf(100, 200, 300, 400, 500, 600, 700, 800);
        Check.due("lowest", afterInserts(x, 0), "((0 100 200) 300 (400 500) 600 (700 800))");
        Check.due("greatest", afterInserts(x, 999), "((0 100 200) 300 (400 500) 600 (700 800 999))");
        Check.due("left of a key above", afterInserts(x, 299), "((0 100 200 299) 300 (400 500) 600 (700 800 999))");
        Check.due("right of a key above", afterInserts(x, 301),
                "((0 100 200 299) 300 (301 400 500) 600 (700 800 999))");
        Check.due("left of the last one above", afterInserts(x, 599),
                "((0 100 200 299) 300 (301 400 500 599) 600 (700 800 999))");
        Check.due("right of the last one above", afterInserts(x, 601),
                "((0 100 200 299) 300 (301 400 500 599) 600 (601 700 800 999))");
    }

    private static void fifthKeyAtTheBottom() {
        Check.sentence("A page that would have 5 keys is split: the third key goes up into the page above");
        int[] keys = {5, 15, 25, 35, 45};
        String[] alone = {"((5 10) 20 (30 40))", "((10 15) 20 (30 40))", "((10 20) 25 (30 40))",
            "((10 20) 30 (35 40))", "((10 20) 30 (40 45))"};
        for (int i = 0; i < keys.length; i++) {
            Pagemaze x = Check.mazeOf(10, 20, 30, 40);
            Check.due("four keys", latestShape(x), "(10 20 30 40)");
            Check.due("fifth one " + keys[i], afterInserts(x, keys[i]), alone[i]);
        }
        Pagemaze first = Check.mazeOf(10, 20, 30, 40, 50, 60, 70, 80, 11, 12);
        Check.due("first page", afterInserts(first, 13), "((10 11) 12 (13 20) 30 (40 50) 60 (70 80))");
        Pagemaze middle = Check.mazeOf(10, 20, 30, 40, 50, 60, 70, 80, 41, 42);
        Check.due("middle page", afterInserts(middle, 43), "((10 20) 30 (40 41) 42 (43 50) 60 (70 80))");
        Pagemaze last = Check.mazeOf(10, 20, 30, 40, 50, 60, 70, 80, 71, 72);
        Check.due("last page", afterInserts(last, 73), "((10 20) 30 (40 50) 60 (70 71) 72 (73 80))");
    }

    private static void fifthKeyAbove() {
        Check.sentence("between a page of the first two and one of the last two");
        Pagemaze x = Check.mazeUpTo(25);
        Check.due("four keys above", latestShape(x),
                "(((1 2) 3 (4 5) 6 (7 8)) 9 ((10 11) 12 (13 14) 15 (16 17) 18 (19 20) 21 (22 23 24 25)))");
        Check.due("fifth key above, not in the outermost page", afterInserts(x, 26),
                "(((1 2) 3 (4 5) 6 (7 8)) 9 ((10 11) 12 (13 14) 15 (16 17)) 18 ((19 20) 21 (22 23) 24 (25 26)))");
        Pagemaze y = tensUpTo(140);
        Check.due("first page below is split, and that above", afterInserts(y, 11, 12, 13),
                "(((10 11) 12 (13 20) 30 (40 50)) 60 ((70 80) 90 (100 110) 120 (130 140)))");
        Pagemaze z = tensUpTo(140);
        Check.due("middle page below is split, and that above", afterInserts(z, 71, 72, 73),
                "(((10 20) 30 (40 50) 60 (70 71)) 72 ((73 80) 90 (100 110) 120 (130 140)))");
    }

    private static void newOutermostPage() {
        Check.sentence("if there is none above, into a new outermost page");
        int[] sizes = {5, 17, 53};
        for (int i = 0; i < sizes.length; i++) {
            Pagemaze x = Check.mazeUpTo(sizes[i]);
            int latest = x.versions() - 1;
            Check.due("levels ahead of " + sizes[i] + " keys", x.levels(latest - 1), i + 1);
            Check.due("levels with " + sizes[i] + " keys", x.levels(latest), i + 2);
            int above = (sizes[i] + 1) / 2;
            Check.due("its only key", x.hasDoor(latest, above, 'l') || x.hasDoor(latest, above, 'r'), false);
            Check.due("nothing above it", x.doors(latest, above), 2);
        }
    }

    // ---- removing ----

    private static void keyAboveGivesWay() {
        Check.sentence("A key that is not in a bottom page gives way to the greatest key of the page below to the left"
                + " of it and all below that, which is taken out instead.");
        Pagemaze x = Check.mazeOf(10, 20, 30, 40, 50, 60, 70, 80, 45);
        Check.due("two levels", afterRemoves(x, 60), "((10 20) 30 (40 45) 50 (70 80))");
        Pagemaze y = tensUpTo(260);
        Check.due("three levels, and it comes down again", afterRemoves(y, 90),
                "(((10 20) 30 (40 50 60 70) 80 (100 110) 120 (130 140) 150 (160 170))"
                + " 180 ((190 200) 210 (220 230) 240 (250 260)))");
        Pagemaze z = tensUpTo(170);
        z.insert(81);
        Check.due("three levels, and it stays", afterRemoves(z, 90),
                "(((10 20) 30 (40 50) 60 (70 80)) 81 ((100 110) 120 (130 140) 150 (160 170)))");
        Pagemaze w = Check.mazeOf(10, 20, 30, 40, 50, 60, 70, 80, 15);
        Check.due("first one above", afterRemoves(w, 30), "((10 15) 20 (40 50) 60 (70 80))");
    }

    private static void twoKeysStay() {
        Check.sentence("A page but the outermost one that has 1 key left borrows");
        Pagemaze x = Check.mazeOf(10, 20, 30, 40, 50, 60, 25, 26);
        Check.due("three keys", latestShape(x), "((10 20 25 26) 30 (40 50 60))");
        Check.due("two keys left", afterRemoves(x, 60), "((10 20 25 26) 30 (40 50))");
        Check.due("one key left", afterRemoves(x, 50), "((10 20 25) 26 (30 40))");
        Pagemaze y = Check.mazeOf(10, 20);
        Check.due("the outermost one", afterRemoves(y, 10), "(20)");
    }

    private static void leftLends() {
        Check.sentence("from the page beside to the left under the same page, if this has more than 2 keys");
        Pagemaze x = Check.mazeOf(10, 20, 30, 40, 50, 25, 26);
        Check.due("4 keys: one of them", afterRemoves(x, 50), "((10 20 25) 26 (30 40))");
        Check.due("3 keys", afterRemoves(x, 40), "((10 20) 25 (26 30))");
        Check.due("2 keys: none", afterRemoves(x, 30), "(10 20 25 26)");
        Pagemaze y = tensUpTo(80);
        afterInserts(y, 25, 75);
        Check.due("left ahead of right", afterRemoves(y, 40), "((10 20) 25 (30 50) 60 (70 75 80))");
        Pagemaze z = tensUpTo(80);
        afterInserts(z, 45);
        Check.due("last page", afterRemoves(z, 80), "((10 20) 30 (40 45) 50 (60 70))");
        Pagemaze w = tensUpTo(260);
        afterInserts(w, 81, 82, 83, 270, 280, 290);
        Check.due("left ahead of right, above", afterRemoves(w, 100),
                "(((10 20) 30 (40 50) 60 (70 80)) 81 ((82 83) 90 (110 120 130 140) 150 (160 170))"
                + " 180 ((190 200) 210 (220 230) 240 (250 260) 270 (280 290)))");
    }

    private static void rightLends() {
        Check.sentence("else from that to the right, likewise");
        Pagemaze x = Check.mazeOf(10, 20, 30, 40, 50, 60, 70);
        Check.due("4 keys: one of them", afterRemoves(x, 10), "((20 30) 40 (50 60 70))");
        Check.due("3 keys", afterRemoves(x, 20), "((30 40) 50 (60 70))");
        Check.due("2 keys: none", afterRemoves(x, 30), "(40 50 60 70)");
        Pagemaze y = tensUpTo(90);
        Check.due("left one has 2 keys", afterRemoves(y, 50), "((10 20) 30 (40 60) 70 (80 90))");
        Pagemaze z = tensUpTo(260);
        afterInserts(z, 270, 280, 290);
        Check.due("left one has 2 keys, above", afterRemoves(z, 100),
                "(((10 20) 30 (40 50) 60 (70 80)) 90 ((110 120 130 140) 150 (160 170) 180 (190 200))"
                + " 210 ((220 230) 240 (250 260) 270 (280 290)))");
    }

    private static void pageBelowChangesSides() {
        Check.sentence("the key between both comes down, the key next to it goes up in its place, and the page below"
                + " next to it changes sides");
        Check.due("from the right, with 4 keys", afterRemoves(Check.mazeUpTo(23), 1),
                "(((2 3 4 5) 6 (7 8) 9 (10 11)) 12 ((13 14) 15 (16 17) 18 (19 20) 21 (22 23)))");
        Check.due("from the right, with 3 keys", afterRemoves(Check.mazeUpTo(20), 1),
                "(((2 3 4 5) 6 (7 8) 9 (10 11)) 12 ((13 14) 15 (16 17) 18 (19 20)))");
        Check.due("from the left, with 4 keys", afterRemoves(fallingFrom(23), 23),
                "(((1 2) 3 (4 5) 6 (7 8) 9 (10 11)) 12 ((13 14) 15 (16 17) 18 (19 20 21 22)))");
        Check.due("from the left, with 3 keys", afterRemoves(fallingFrom(20), 20),
                "(((1 2) 3 (4 5) 6 (7 8)) 9 ((10 11) 12 (13 14) 15 (16 17 18 19)))");
    }

    private static void onlyUnderTheSamePage() {
        Check.sentence("under the same page");
        Pagemaze x = tensUpTo(170);
        afterInserts(x, 85, 86);
        Check.due("left one under another page", afterRemoves(x, 100),
                "((10 20) 30 (40 50) 60 (70 80 85 86) 90 (110 120 130 140) 150 (160 170))");
        Pagemaze y = tensUpTo(170);
        afterInserts(y, 112, 114);
        Check.due("right one under another page", afterRemoves(y, 80),
                "((10 20) 30 (40 50 60 70) 90 (100 110 112 114) 120 (130 140) 150 (160 170))");
    }

    private static void mergesWithTheLeft() {
        Check.sentence("Otherwise it merges with the page to the left");
        Check.due("one between two", afterRemoves(tensUpTo(80), 40), "((10 20 30 50) 60 (70 80))");
        Check.due("last one", afterRemoves(tensUpTo(80), 80), "((10 20) 30 (40 50 60 70))");
        Check.due("above, between two", afterRemoves(tensUpTo(260), 100),
                "(((10 20) 30 (40 50) 60 (70 80) 90 (110 120 130 140) 150 (160 170))"
                + " 180 ((190 200) 210 (220 230) 240 (250 260)))");
        Check.due("above, last one", afterRemoves(tensUpTo(260), 260),
                "(((10 20) 30 (40 50) 60 (70 80))"
                + " 90 ((100 110) 120 (130 140) 150 (160 170) 180 (190 200) 210 (220 230 240 250)))");
    }

    private static void mergesWithTheRight() {
        Check.sentence("or, without one, with that to the right, the key between both coming down");
        Check.due("first one", afterRemoves(tensUpTo(80), 20), "((10 30 40 50) 60 (70 80))");
        Check.due("above, first one", afterRemoves(tensUpTo(260), 10),
                "(((20 30 40 50) 60 (70 80) 90 (100 110) 120 (130 140) 150 (160 170))"
                + " 180 ((190 200) 210 (220 230) 240 (250 260)))");
    }

    private static void fromTheBottomUp() {
        Check.sentence("This is done from the bottom up.");
        Pagemaze x = Check.mazeUpTo(53);
        Check.due("four levels", x.levels(53), 4);
        x.remove(53);
        Check.due("merged on three of them", x.levels(54) + " " + x.keys(54), "3 52");
        Check.due("pages", x.pages(53) + " " + x.pages(54), "27 23");
        Check.due("shape", latestShape(x),
                "(((1 2) 3 (4 5) 6 (7 8)) 9 ((10 11) 12 (13 14) 15 (16 17)) 18 ((19 20) 21 (22 23) 24 (25 26))"
                + " 27 ((28 29) 30 (31 32) 33 (34 35))"
                + " 36 ((37 38) 39 (40 41) 42 (43 44) 45 (46 47) 48 (49 50 51 52)))");
    }

    private static void outermostGivesWay() {
        Check.sentence("An outermost page without keys gives way to the page below it, if there is one.");
        Check.due("to a bottom page", afterRemoves(tensUpTo(50), 10), "(20 30 40 50)");
        Check.due("to one above others", afterRemoves(tensUpTo(170), 10),
                "((20 30 40 50) 60 (70 80) 90 (100 110) 120 (130 140) 150 (160 170))");
        Check.due("one key is left in it", afterRemoves(tensUpTo(80), 10), "((20 30 40 50) 60 (70 80))");
        Pagemaze x = Check.mazeOf(10);
        Check.due("there is none", afterRemoves(x, 10), "()");
        Check.due("it stays", x.pages(2) + " " + x.levels(2), "1 1");
        Check.due("and takes keys again", afterInserts(x, 20), "(20)");
    }

    // ---- pages made in versions ----

    private static void pagesMadeOnTheWay() {
        Check.sentence("those from the outermost one on down to where the key comes, or to the one that is taken out");
        Pagemaze x = tensUpTo(170);
        // made as the tens came: (10 20) in 5, (40 50) in 8, (70 80) in 11, (100 110) in 14, all others in 17
        Check.due("before", made(x, 10, 30, 40, 70, 90, 100, 120, 130, 160), "5 17 8 11 17 14 17 17 17");
        x.insert(81);
        Check.due("where the key comes", made(x, 10, 30, 40, 70, 90, 100, 120, 130, 160), "5 18 8 18 18 14 17 17 17");
        Check.due("their number", newPages(x), 3);
        x.remove(90);
        Check.due("to the one that is taken out", made(x, 10, 30, 40, 70, 81, 100, 120, 130, 160),
                "5 19 8 19 19 14 17 17 17");
        Check.due("their number then", newPages(x), 3);
        x.insert(161);
        x.remove(161);
        Check.due("taken out of a bottom page", made(x, 10, 30, 40, 70, 81, 100, 120, 130, 160),
                "5 19 8 19 21 14 21 17 21");
        Pagemaze y = Check.mazeOf(10);
        y.remove(10);
        y.insert(10);
        Check.due("page without keys", y.madeIn(3, 10) + " " + y.sharedWith(2, 1) + " " + y.sharedWith(3, 2)
                + " " + y.sharedWith(2, 0), "3 0 0 0");
    }

    private static void pagesMadeBySplits() {
        Check.sentence("those that come of a split");
        Pagemaze x = Check.mazeOf(10, 20, 30, 40);
        x.insert(50);
        Check.due("all three", made(x, 10, 30, 40), "5 5 5");
        Pagemaze y = tensUpTo(80);
        afterInserts(y, 41, 42, 43);
        Check.due("both, and that above", made(y, 10, 30, 40, 43, 70), "5 11 11 11 8");
        Check.due("their number", newPages(y), 3);
        Pagemaze z = tensUpTo(260);
        Check.due("above, too", made(z, 10, 30, 90, 100, 120, 130, 160, 190, 210, 220, 250),
                "5 17 26 14 26 17 20 23 26 26 26");
        Check.due("their number above", newPages(z), 5);
    }

    private static void pagesMadeByBorrowing() {
        Check.sentence("those that borrow, lend");
        Pagemaze x = tensUpTo(80);
        x.insert(25);
        x.remove(40);
        Check.due("left lends", made(x, 10, 25, 30, 70), "10 10 10 8");
        Pagemaze y = tensUpTo(90);
        y.remove(50);
        Check.due("right lends", made(y, 10, 30, 40, 80), "5 10 10 10");
        Pagemaze z = tensUpTo(200);
        z.remove(10);
        // (((20 30 40 50) 60 (70 80) 90 (100 110)) 120 ((130 140) 150 (160 170) 180 (190 200)))
        Check.due("lends above; what changes sides stays", made(z, 20, 60, 70, 100, 120, 130, 150, 160, 190),
                "21 21 11 14 21 17 21 20 20");
        Check.due("their number", newPages(z), 4);
    }

    private static void pagesMadeByMerging() {
        Check.sentence("or merge, are made in the new version; all others are those of the version ahead");
        Pagemaze x = tensUpTo(110);
        x.remove(50);
        Check.due("with the left", latestShape(x), "((10 20 30 40) 60 (70 80) 90 (100 110))");
        Check.due("made", made(x, 10, 60, 70, 100), "12 12 11 11");
        Pagemaze y = tensUpTo(110);
        y.remove(20);
        Check.due("with the right", made(y, 10, 60, 70, 100), "12 12 11 11");
        Pagemaze z = tensUpTo(260);
        z.remove(100);
        Check.due("above", made(z, 10, 30, 40, 70, 110, 160, 180, 190, 210), "5 27 8 11 27 20 27 23 26");
        Check.due("their number", newPages(z), 3);
        Pagemaze w = tensUpTo(50);
        w.remove(50);
        Check.due("into the outermost one", made(w, 10) + " " + newPages(w), "6 1");
    }

    private static void veryPages() {
        Check.sentence("To go back to a version makes a new one with the very pages of that.");
        Pagemaze x = tensUpTo(170);
        x.remove(10);
        for (int version : new int[] {0, 1, 4, 5, 16, 17, 18}) {
            int latest = x.goBack(version);
            Check.due("keys of " + version, Check.shape(x, latest), Check.shape(x, version));
            Check.due("pages of " + version, x.sharedWith(latest, version), x.pages(version));
            Check.due("back from it to " + version, x.sharedWith(version, latest), x.pages(latest));
        }
        Check.due("to the latest", x.goBack(25), 26);
        Check.due("its pages", x.sharedWith(26, 25), x.pages(25));
        x.goBack(17);
        Check.due("made", made(x, 10, 30, 40, 70, 90), "5 17 8 11 17");
        x.insert(81);
        Check.due("that one stays as it was", Check.shape(x, 17),
                "(((10 20) 30 (40 50) 60 (70 80)) 90 ((100 110) 120 (130 140) 150 (160 170)))");
        Check.due("made from there on", made(x, 10, 30, 40, 70, 90), "5 28 8 28 28");
    }

    // ---- promises 1 to 11: what they throw, and their least answers ----

    private static void promises() {
        Check.sentence("Creates a maze without rooms, pupils and tasks.");
        Pagemaze x = new Pagemaze();
        Check.due("rooms", x.keys(0), 0);
        Check.thrown("pupil 0", IndexOutOfBoundsException.class, () -> x.whereIs(0));
        Check.thrown("task 0", IndexOutOfBoundsException.class, () -> x.task(0));
        Check.sentence("Returns their number, 1 at first.");
        Check.due("versions", x.versions(), 1);
        Check.sentence("Returns their number, 1 without keys.");
        Check.due("pages and levels at first", x.pages(0) + " " + x.levels(0), "1 1");
        x.insert(10);
        x.remove(10);
        Check.due("pages and levels again", x.pages(2) + " " + x.levels(2), "1 1");
        insertAndRemove();
        noSuchVersion();
        noSuchRoom();
        sameVersion();
    }

    private static void insertAndRemove() {
        Check.sentence("Throws UnsupportedOperationException if it is there");
        Pagemaze x = tensUpTo(170);
        for (int key = 10; key <= 170; key += 10) {
            int there = key;
            Check.refused("insert(" + key + ")", UnsupportedOperationException.class, x, () -> x.insert(there));
        }
        Check.sentence("Throws NoSuchElementException if it is not there");
        for (int key : new int[] {0, 9, 11, 171, 999, -1, 1000, Integer.MIN_VALUE, Integer.MAX_VALUE}) {
            Check.refused("remove(" + key + ")", NoSuchElementException.class, x, () -> x.remove(key));
        }
        x.remove(90);
        Check.refused("remove once more", NoSuchElementException.class, x, () -> x.remove(90));
        Check.due("insert once more", x.insert(90), 19);
        Pagemaze y = new Pagemaze();
        Check.refused("remove without keys", NoSuchElementException.class, y, () -> y.remove(0));
    }

    private static void noSuchVersion() {
        Check.sentence("Throws IndexOutOfBoundsException if there is no such version");
        Pagemaze x = tensUpTo(50);
        int[] versions = {-1, 6, 150, Integer.MIN_VALUE, Integer.MAX_VALUE};
        for (int version : versions) {
            String what = "(" + version + ")";
            Check.refused("goBack" + what, IndexOutOfBoundsException.class, x, () -> x.goBack(version));
            Check.refused("keys" + what, IndexOutOfBoundsException.class, x, () -> x.keys(version));
            Check.refused("has" + what, IndexOutOfBoundsException.class, x, () -> x.has(version, 10));
            Check.refused("pages" + what, IndexOutOfBoundsException.class, x, () -> x.pages(version));
            Check.refused("levels" + what, IndexOutOfBoundsException.class, x, () -> x.levels(version));
            Check.refused("madeIn" + what, IndexOutOfBoundsException.class, x, () -> x.madeIn(version, 10));
            Check.refused("sharedWith" + what, IndexOutOfBoundsException.class, x, () -> x.sharedWith(version, 5));
            Check.refused("sharedWith other" + what, IndexOutOfBoundsException.class, x,
                    () -> x.sharedWith(5, version));
            Check.refused("sharedWith both" + what, IndexOutOfBoundsException.class, x,
                    () -> x.sharedWith(version, version));
        }
        Check.due("the latest one", x.keys(5) + " " + x.has(5, 10) + " " + x.pages(5) + " " + x.levels(5) + " "
                + x.madeIn(5, 10) + " " + x.sharedWith(5, 0), "5 true 3 2 5 0");
        Check.due("goBack to the first one", x.goBack(0), 6);
        Check.due("goBack to the latest one", x.goBack(6), 7);
        Pagemaze full = Check.mazeUpTo(149);
        for (int version : FAR_VERSIONS) {
            Check.thrown("goBack(" + version + "), full", IndexOutOfBoundsException.class,
                    () -> full.goBack(version));
        }
    }

    private static void noSuchRoom() {
        Check.sentence("Throws NoSuchElementException if there is no such room in it");
        Pagemaze x = tensUpTo(50);
        for (int key : new int[] {-1, 0, 11, 51, 999, 1000, Integer.MIN_VALUE, Integer.MAX_VALUE}) {
            Check.refused("madeIn(5, " + key + ")", NoSuchElementException.class, x, () -> x.madeIn(5, key));
            Check.due("has(5, " + key + ")", x.has(5, key), false);
        }
        Check.refused("room of a later version", NoSuchElementException.class, x, () -> x.madeIn(4, 50));
        Check.refused("version without keys", NoSuchElementException.class, x, () -> x.madeIn(0, 10));
    }

    private static void sameVersion() {
        Check.sentence("the number of another version, or the same one");
        Pagemaze x = Check.mazeUpTo(53);
        x.remove(27);
        for (int version = 0; version < x.versions(); version++) {
            Check.due("sharedWith(" + version + ", the same)", x.sharedWith(version, version), x.pages(version));
        }
        Check.due("page without keys and page with them", x.sharedWith(0, 1) + " " + x.sharedWith(1, 0), "0 0");
    }
}
