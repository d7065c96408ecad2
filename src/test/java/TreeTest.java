import java.util.NoSuchElementException;

/** Promises 1 to 11: the tree and its versions. */
public final class TreeTest {
    private TreeTest() {
    }

    public static void main(String[] args) {
        newObject();
        insertSplits();
        insertSplitsUpwards();
        insertWrong();
        removeBorrows();
        removeMerges();
        removeFromAbove();
        removeLowersTheTree();
        removeWrong();
        goBack();
        limits();
        countsOfVersions();
        pagesMade();
        pagesShared();
        pagesSharedWithoutKeys();
        Check.end();
    }

    private static void newObject() {
        Pagemaze x = new Pagemaze();
        Check.due("P1 versions", x.versions(), 1);
        Check.due("P1 keys", x.keys(0), 0);
        Check.due("P1 pages", x.pages(0), 1);
        Check.due("P1 levels", x.levels(0), 1);
        Check.thrown("P1 no pupil", IndexOutOfBoundsException.class, () -> x.steps(0));
        Check.thrown("P1 no task", IndexOutOfBoundsException.class, () -> x.task(0));
        Check.due("P1 sound", x.isSound(), true);
        Pagemaze other = Check.mazeOf(1);
        Check.due("P1 objects are apart", x.versions() + " " + other.versions(), "1 2");
    }

    private static void insertSplits() {
        Pagemaze x = new Pagemaze();
        Check.due("P2 first", x.insert(30), 1);
        Check.due("P2 second", x.insert(10), 2);
        x.insert(40);
        x.insert(20);
        Check.due("P2 four keys", Check.shape(x, 4), "(10 20 30 40)");
        Check.due("P2 fifth", x.insert(50), 5);
        Check.due("P2 split", Check.shape(x, 5), "((10 20) 30 (40 50))");
        Check.due("P2 version ahead is as it was", Check.shape(x, 4), "(10 20 30 40)");
        x.insert(25);
        Check.due("P2 goes below", Check.shape(x, 6), "((10 20 25) 30 (40 50))");
        x.insert(5);
        x.insert(15);
        Check.due("P2 middle one goes up", Check.shape(x, 8), "((5 10) 15 (20 25) 30 (40 50))");
        x.insert(0);
        x.insert(999);
        Check.due("P2 least and greatest", Check.shape(x, 10), "((0 5 10) 15 (20 25) 30 (40 50 999))");
        Pagemaze low = Check.mazeOf(2, 3, 4, 5, 1);
        Check.due("P2 new one is first", Check.shape(low, 5), "((1 2) 3 (4 5))");
        Pagemaze middle = Check.mazeOf(1, 2, 4, 5, 3);
        Check.due("P2 new one goes up", Check.shape(middle, 5), "((1 2) 3 (4 5))");
    }

    private static void insertSplitsUpwards() {
        Pagemaze x = Check.mazeUpTo(17);
        Check.due("P2 16 keys", Check.shape(x, 16), "((1 2) 3 (4 5) 6 (7 8) 9 (10 11) 12 (13 14 15 16))");
        Check.due("P2 17 keys", Check.shape(x, 17),
                "(((1 2) 3 (4 5) 6 (7 8)) 9 ((10 11) 12 (13 14) 15 (16 17)))");
        Pagemaze y = Check.mazeOf(170, 160, 150, 140, 130, 120, 110, 100, 90, 80, 70, 60, 50, 40, 30, 20, 10);
        Check.due("P2 falling keys", Check.shape(y, 17),
                "(((10 20) 30 (40 50) 60 (70 80)) 90 ((100 110) 120 (130 140) 150 (160 170)))");
    }

    private static void insertWrong() {
        Pagemaze x = Check.mazeOf(7);
        Check.thrown("P2 below range", IllegalArgumentException.class, () -> x.insert(-1));
        Check.thrown("P2 above range", IllegalArgumentException.class, () -> x.insert(1000));
        Check.thrown("P2 far below", IllegalArgumentException.class, () -> x.insert(Integer.MIN_VALUE));
        Check.thrown("P2 far above", IllegalArgumentException.class, () -> x.insert(Integer.MAX_VALUE));
        Check.thrown("P2 is there", UnsupportedOperationException.class, () -> x.insert(7));
        Check.due("P2 nothing changed", x.versions() + " " + x.keys(1), "2 1");
    }

    private static void removeBorrows() {
        Pagemaze x = Check.mazeOf(10, 20, 30, 40, 50, 60, 15);
        Check.due("P3 both sides may lend", Check.shape(x, 7), "((10 15 20) 30 (40 50 60))");
        Check.due("P3 bottom key", x.remove(50), 8);
        Check.due("P3 enough are left", Check.shape(x, 8), "((10 15 20) 30 (40 60))");
        x.remove(60);
        Check.due("P3 from the left", Check.shape(x, 9), "((10 15) 20 (30 40))");
        Pagemaze y = Check.mazeOf(10, 20, 30, 40, 50, 60);
        y.remove(10);
        Check.due("P3 from the right", Check.shape(y, 7), "((20 30) 40 (50 60))");
        Pagemaze z = Check.mazeOf(10, 20, 30, 40, 50, 60, 70, 80, 25, 90);
        Check.due("P3 three pages", Check.shape(z, 10), "((10 20 25) 30 (40 50) 60 (70 80 90))");
        z.remove(40);
        Check.due("P3 left one is asked first", Check.shape(z, 11), "((10 20) 25 (30 50) 60 (70 80 90))");
        z.remove(30);
        Check.due("P3 right one is asked then", Check.shape(z, 12), "((10 20) 25 (50 60) 70 (80 90))");
        borrowsAbove();
    }

    private static void borrowsAbove() {
        Pagemaze x = Check.mazeUpTo(20);
        Check.due("P3 20 keys", Check.shape(x, 20),
                "(((1 2) 3 (4 5) 6 (7 8)) 9 ((10 11) 12 (13 14) 15 (16 17) 18 (19 20)))");
        x.remove(1);
        Check.due("P3 page below changes to the left", Check.shape(x, 21),
                "(((2 3 4 5) 6 (7 8) 9 (10 11)) 12 ((13 14) 15 (16 17) 18 (19 20)))");
        Pagemaze y = new Pagemaze();
        for (int key = 20; key >= 1; key--) {
            y.insert(key);
        }
        Check.due("P3 20 falling keys", Check.shape(y, 20),
                "(((1 2) 3 (4 5) 6 (7 8) 9 (10 11)) 12 ((13 14) 15 (16 17) 18 (19 20)))");
        y.remove(20);
        Check.due("P3 page below changes to the right", Check.shape(y, 21),
                "(((1 2) 3 (4 5) 6 (7 8)) 9 ((10 11) 12 (13 14) 15 (16 17 18 19)))");
    }

    private static void removeMerges() {
        Pagemaze x = Check.mazeOf(10, 20, 30, 40, 50, 60, 70, 80);
        Check.due("P3 three pages of two", Check.shape(x, 8), "((10 20) 30 (40 50) 60 (70 80))");
        x.remove(50);
        Check.due("P3 merges with the left", Check.shape(x, 9), "((10 20 30 40) 60 (70 80))");
        Pagemaze y = Check.mazeOf(10, 20, 30, 40, 50, 60, 70, 80);
        y.remove(10);
        Check.due("P3 merges with the right", Check.shape(y, 9), "((20 30 40 50) 60 (70 80))");
        y.remove(80);
        Check.due("P3 borrows after it", Check.shape(y, 10), "((20 30 40) 50 (60 70))");
        Pagemaze z = Check.mazeOf(10, 20, 30, 40, 50, 60, 70, 80);
        z.remove(80);
        Check.due("P3 last one merges with the left", Check.shape(z, 9), "((10 20) 30 (40 50 60 70))");
    }

    private static void removeFromAbove() {
        Pagemaze x = Check.mazeOf(10, 20, 30, 40, 50, 25);
        x.remove(30);
        Check.due("P3 greatest one below comes up", Check.shape(x, 7), "((10 20) 25 (40 50))");
        Pagemaze y = Check.mazeUpTo(18);
        Check.due("P3 18 keys", Check.shape(y, 18),
                "(((1 2) 3 (4 5) 6 (7 8)) 9 ((10 11) 12 (13 14) 15 (16 17 18)))");
        y.remove(15);
        Check.due("P3 one that comes up comes down again", Check.shape(y, 19),
                "(((1 2) 3 (4 5) 6 (7 8)) 9 ((10 11) 12 (13 14) 16 (17 18)))");
        Pagemaze z = Check.mazeUpTo(17);
        z.insert(0);
        z.remove(9);
        Check.due("P3 greatest one of all below comes up", Check.shape(z, 19),
                "((0 1 2) 3 (4 5 6 7) 8 (10 11) 12 (13 14) 15 (16 17))");
    }

    private static void removeLowersTheTree() {
        Pagemaze x = Check.mazeOf(10, 20, 30, 40, 50);
        x.remove(10);
        Check.due("P3 outermost page gives way", Check.shape(x, 6), "(20 30 40 50)");
        x.remove(30);
        x.remove(20);
        x.remove(50);
        Check.due("P3 outermost page may have one", Check.shape(x, 9), "(40)");
        Check.due("P3 last key", x.remove(40), 10);
        Check.due("P3 no keys", x.keys(10) + " " + x.pages(10) + " " + x.levels(10), "0 1 1");
        x.insert(3);
        Check.due("P3 begins again", Check.shape(x, 11), "(3)");
        Pagemaze y = Check.mazeUpTo(17);
        y.remove(17);
        Check.due("P3 two levels fill up", Check.shape(y, 18),
                "((1 2) 3 (4 5) 6 (7 8) 9 (10 11) 12 (13 14 15 16))");
    }

    private static void removeWrong() {
        Pagemaze x = Check.mazeOf(5);
        Check.thrown("P3 is not there", NoSuchElementException.class, () -> x.remove(6));
        Check.thrown("P3 below range", NoSuchElementException.class, () -> x.remove(-1));
        Check.thrown("P3 above range", NoSuchElementException.class, () -> x.remove(1000));
        x.remove(5);
        Check.thrown("P3 is not there any more", NoSuchElementException.class, () -> x.remove(5));
        Check.due("P3 nothing changed", x.versions(), 3);
    }

    private static void goBack() {
        Pagemaze x = Check.mazeOf(10, 20, 30, 40, 50);
        Check.due("P4 back to four keys", x.goBack(4), 6);
        Check.due("P4 keys", Check.shape(x, 6), "(10 20 30 40)");
        Check.due("P4 very pages", x.madeIn(6, 10) + " " + x.sharedWith(6, 4), "4 1");
        Check.due("P4 to the latest", x.goBack(6), 7);
        Check.due("P4 to the first", x.goBack(0), 8);
        Check.due("P4 no keys", x.keys(8), 0);
        x.goBack(5);
        x.insert(45);
        Check.due("P4 goes on from there", Check.shape(x, 10), "((10 20) 30 (40 45 50))");
        Check.due("P4 that one is as it was", Check.shape(x, 5), "((10 20) 30 (40 50))");
        Check.thrown("P4 below", IndexOutOfBoundsException.class, () -> x.goBack(-1));
        Check.thrown("P4 above", IndexOutOfBoundsException.class, () -> x.goBack(11));
        Check.due("P4 nothing changed", x.versions(), 11);
    }

    private static void limits() {
        Pagemaze x = Check.mazeUpTo(149);
        Check.due("P5 150 versions", x.versions(), 150);
        Check.due("P6 149 keys", x.keys(149), 149);
        Check.due("P37 sound", x.isSound(), true);
        Check.thrown("P2 full", IllegalStateException.class, () -> x.insert(200));
        Check.thrown("P2 full, but there", UnsupportedOperationException.class, () -> x.insert(149));
        Check.thrown("P2 full, but out of range", IllegalArgumentException.class, () -> x.insert(1000));
        Check.thrown("P3 full", IllegalStateException.class, () -> x.remove(149));
        Check.thrown("P3 full, but not there", NoSuchElementException.class, () -> x.remove(200));
        Check.thrown("P4 full", IllegalStateException.class, () -> x.goBack(149));
        Check.thrown("P4 full, but no such version", IndexOutOfBoundsException.class, () -> x.goBack(150));
        Check.due("P5 nothing changed", x.versions() + " " + x.keys(149), "150 149");
        Pagemaze y = Check.mazeUpTo(148);
        Check.due("P2 last version", y.insert(500), 149);
        Pagemaze z = Check.mazeUpTo(148);
        Check.due("P3 last version", z.remove(1), 149);
        Pagemaze w = Check.mazeUpTo(148);
        Check.due("P4 last version", w.goBack(0), 149);
    }

    private static void countsOfVersions() {
        Pagemaze x = Check.mazeUpTo(17);
        x.remove(9);
        Check.due("P5", x.versions(), 19);
        Check.due("P6", x.keys(0) + " " + x.keys(5) + " " + x.keys(17) + " " + x.keys(18), "0 5 17 16");
        Check.due("P7 lowest and greatest", x.has(17, 1) + " " + x.has(17, 17), "true true");
        Check.due("P7 above", x.has(17, 9) + " " + x.has(17, 12), "true true");
        Check.due("P7 of that version", x.has(18, 9) + " " + x.has(16, 17) + " " + x.has(0, 1), "false false false");
        Check.due("P7 out of range", x.has(17, -1) + " " + x.has(17, 1000) + " "
                + x.has(0, -1) + " " + x.has(17, Integer.MIN_VALUE) + " " + x.has(17, Integer.MAX_VALUE),
                "false false false false false");
        Check.due("P8", x.pages(0) + " " + x.pages(4) + " " + x.pages(5) + " " + x.pages(16) + " "
                + x.pages(17) + " " + x.pages(18), "1 1 3 6 9 6");
        Check.due("P9", x.levels(0) + " " + x.levels(4) + " " + x.levels(5) + " " + x.levels(16) + " "
                + x.levels(17) + " " + x.levels(18), "1 1 2 2 3 2");
        for (int version : new int[] {-1, 19, Integer.MIN_VALUE, Integer.MAX_VALUE}) {
            Check.thrown("P6 " + version, IndexOutOfBoundsException.class, () -> x.keys(version));
            Check.thrown("P7 " + version, IndexOutOfBoundsException.class, () -> x.has(version, 1));
            Check.thrown("P8 " + version, IndexOutOfBoundsException.class, () -> x.pages(version));
            Check.thrown("P9 " + version, IndexOutOfBoundsException.class, () -> x.levels(version));
            Check.thrown("P10 " + version, IndexOutOfBoundsException.class, () -> x.madeIn(version, -1));
            Check.thrown("P11 " + version, IndexOutOfBoundsException.class, () -> x.sharedWith(version, 0));
            Check.thrown("P11 other " + version, IndexOutOfBoundsException.class, () -> x.sharedWith(0, version));
        }
    }

    private static void pagesMade() {
        Pagemaze x = Check.mazeOf(10, 20, 30, 40, 50);
        Check.due("P10 split makes all", x.madeIn(5, 10) + " " + x.madeIn(5, 30) + " " + x.madeIn(5, 50), "5 5 5");
        Check.due("P10 version ahead", x.madeIn(4, 10), 4);
        x.insert(45);
        Check.due("P10 way down", x.madeIn(6, 10) + " " + x.madeIn(6, 30) + " " + x.madeIn(6, 45), "5 6 6");
        x.insert(60);
        x.insert(70);
        Check.due("P10 three pages", Check.shape(x, 8), "((10 20) 30 (40 45) 50 (60 70))");
        Check.due("P10 split at the bottom", x.madeIn(8, 20) + " " + x.madeIn(8, 40) + " " + x.madeIn(8, 50)
                + " " + x.madeIn(8, 60), "5 8 8 8");
        x.insert(80);
        x.remove(40);
        Check.due("P10 one that lends", Check.shape(x, 10), "((10 20) 30 (45 50) 60 (70 80))");
        Check.due("P10 borrows and lends", x.madeIn(10, 10) + " " + x.madeIn(10, 45) + " " + x.madeIn(10, 60)
                + " " + x.madeIn(10, 70), "5 10 10 10");
        x.remove(50);
        Check.due("P10 merged", Check.shape(x, 11), "((10 20 30 45) 60 (70 80))");
        Check.due("P10 merges", x.madeIn(11, 10) + " " + x.madeIn(11, 60) + " " + x.madeIn(11, 70), "11 11 10");
        x.remove(60);
        Check.due("P10 way to the one taken out", x.madeIn(12, 10) + " " + x.madeIn(12, 45) + " "
                + x.madeIn(12, 70), "12 12 10");
        x.goBack(5);
        Check.due("P10 back", x.madeIn(13, 10) + " " + x.madeIn(13, 30), "5 5");
        Check.thrown("P10 not there", NoSuchElementException.class, () -> x.madeIn(13, 45));
        Check.thrown("P10 no keys", NoSuchElementException.class, () -> x.madeIn(0, 10));
        Check.thrown("P10 out of range", NoSuchElementException.class, () -> x.madeIn(13, -1));
        Check.thrown("P10 above range", NoSuchElementException.class, () -> x.madeIn(13, 1000));
        pagesMadeAbove();
    }

    private static void pagesMadeAbove() {
        Pagemaze x = Check.mazeUpTo(20);
        x.remove(1);
        // (((2 3 4 5) 6 (7 8) 9 (10 11)) 12 ((13 14) 15 (16 17) 18 (19 20)))
        Check.due("P10 lends above", x.madeIn(21, 2) + " " + x.madeIn(21, 6) + " " + x.madeIn(21, 12) + " "
                + x.madeIn(21, 15), "21 21 21 21");
        Check.due("P10 page that changes sides is no new one", x.madeIn(21, 10), x.madeIn(20, 10));
        Check.due("P10 others stay", x.madeIn(21, 7) + " " + x.madeIn(21, 13) + " " + x.madeIn(21, 19),
                x.madeIn(20, 7) + " " + x.madeIn(20, 13) + " " + x.madeIn(20, 19));
    }

    private static void pagesShared() {
        Pagemaze x = Check.mazeOf(10, 20, 30, 40, 50, 5);
        Check.due("P11 ahead", x.sharedWith(6, 5) + " " + x.sharedWith(5, 6), "1 1");
        Check.due("P11 itself", x.sharedWith(5, 5) + " " + x.sharedWith(6, 6), "3 3");
        Check.due("P11 none", x.sharedWith(5, 4) + " " + x.sharedWith(0, 5), "0 0");
        x.goBack(5);
        Check.due("P11 back", x.sharedWith(7, 5) + " " + x.sharedWith(7, 6), "3 1");
        x.insert(5);
        Check.due("P11 same keys, other pages", x.sharedWith(8, 6), 1);
        Pagemaze y = Check.mazeUpTo(20);
        y.remove(1);
        Check.due("P11 of three levels", y.sharedWith(21, 20), 5);
    }

    private static void pagesSharedWithoutKeys() {
        Pagemaze x = Check.mazeOf(10);
        x.remove(10);
        Check.due("P11 page without keys", x.sharedWith(0, 0) + " " + x.sharedWith(2, 2), "1 1");
        Check.due("P11 another one without keys", x.sharedWith(0, 2), 0);
        x.goBack(0);
        Check.due("P11 the very one", x.sharedWith(3, 0) + " " + x.sharedWith(3, 2), "1 0");
    }
}
