import java.util.NoSuchElementException;

/** Promises 23 to 29. */
final class BoardsTest {

    private static final int[] WRONG = {-1, 64, Integer.MIN_VALUE, Integer.MAX_VALUE};

    private BoardsTest() {
    }

    static void run(Check check) {
        addBoard(check);
        fits(check);
        fitsAtEachTurn(check);
        lay(check);
        freeAndIsFree(check);
        cut(check);
    }

    private static void addBoard(Check check) {
        check.promise(23);
        CubefoldWorks works = Build.works();
        for (int number = 0; number < 4; number++) {
            int due = number;
            check.due("addBoard", due, works::addBoard);
            check.due("all are free at first", 64, () -> works.free(due));
        }
        check.refused("a fifth board", IllegalStateException.class, works, works::addBoard);
    }

    private static void fits(Check check) {
        check.promise(24);
        CubefoldWorks works = Build.works();
        check.refused("no sheet, no board", IndexOutOfBoundsException.class, works, () -> works.fits(0, 0));
        int sheet = works.addSheet();
        check.refused("no board", IndexOutOfBoundsException.class, works, () -> works.fits(sheet, 0));
        int board = works.addBoard();
        check.refused("without squares", NoSuchElementException.class, works, () -> works.fits(sheet, board));
        for (int wrong : WRONG) {
            check.refused("no such sheet", IndexOutOfBoundsException.class, works, () -> works.fits(wrong, board));
            check.refused("no such board", IndexOutOfBoundsException.class, works, () -> works.fits(sheet, wrong));
        }
        check.refused("sheet 1 of 1", IndexOutOfBoundsException.class, works, () -> works.fits(1, board));
        check.refused("board 1 of 1", IndexOutOfBoundsException.class, works, () -> works.fits(sheet, 1));
        works.set(sheet, 63, true);
        check.due("one square goes to the corner", 0, () -> works.fits(sheet, board));
        works.lay(sheet, board);
        check.due("then beside it", 1, () -> works.fits(sheet, board));
        for (int more = 1; more < 8; more++) {
            works.lay(sheet, board);
        }
        check.due("then below", 10, () -> works.fits(sheet, board));
        for (int more = 8; more < 63; more++) {
            works.lay(sheet, board);
        }
        check.due("the last square", 77, () -> works.fits(sheet, board));
        works.lay(sheet, board);
        check.refused("a full board", NoSuchElementException.class, works, () -> works.fits(sheet, board));
    }

    /** A hook of three and one fits at each turn, if but its four squares are free. */
    private static void fitsAtEachTurn(Check check) {
        int[] hook = {0, 1, 2, 8};
        for (int turn = 0; turn < 8; turn++) {
            for (int corner : new int[] {0, 19, 37, 60}) {
                CubefoldWorks works = Build.works();
                int sheet = Build.sheet(works, hook);
                int board = works.addBoard();
                int[] place = Model.placed(hook, turn, corner / 8, corner % 8);
                if (place.length == 0) {
                    continue;
                }
                int rest = works.addSheet();
                Build.fill(works, rest);
                for (int square : place) {
                    works.set(rest, square, false);
                }
                works.lay(rest, board);
                int due = 100 * turn + 10 * (corner / 8) + corner % 8;
                if (place.length + works.squares(rest) == 64 && works.free(board) == 4) {
                    check.due("the hook at " + due, due, () -> works.fits(sheet, board));
                }
            }
        }
        CubefoldWorks works = Build.works();
        int line = Build.sheet(works, 0, 1, 2, 3, 4, 5, 6, 7);
        int column = Build.sheet(works, 0, 8, 16, 24, 32, 40, 48);
        int ends = Build.sheet(works, 0, 56);
        int board = works.addBoard();
        check.due("a column of seven", 0, () -> works.fits(column, board));
        works.lay(column, board);
        check.due("a line under the column", 70, () -> works.fits(line, board));
        check.due("ends that are not one", 1, () -> works.fits(ends, board));
        works.lay(line, board);
        check.due("no line, no column", NoSuchElementException.class, () -> works.fits(line, board));
        check.due("ends do not fit upright", NoSuchElementException.class, () -> works.fits(ends, board));
        check.due("a column of seven, still", 1, () -> works.fits(column, board));
    }

    private static void lay(Check check) {
        check.promise(25);
        CubefoldWorks works = Build.works();
        check.refused("no sheet, no board", IndexOutOfBoundsException.class, works, () -> works.lay(0, 0));
        int sheet = works.addSheet();
        check.refused("no board", IndexOutOfBoundsException.class, works, () -> works.lay(sheet, 0));
        int board = works.addBoard();
        int other = works.addBoard();
        check.refused("without squares", UnsupportedOperationException.class, works, () -> works.lay(sheet, board));
        for (int wrong : WRONG) {
            check.refused("no such sheet", IndexOutOfBoundsException.class, works, () -> works.lay(wrong, board));
            check.refused("no such board", IndexOutOfBoundsException.class, works, () -> works.lay(sheet, wrong));
        }
        for (int square : new int[] {10, 17, 18, 19}) {
            works.set(sheet, square, true);
        }
        check.due("lay", 60, () -> works.lay(sheet, board));
        for (int square = 0; square < 12; square++) {
            int place = square;
            boolean due = square != 1 && square != 8 && square != 9 && square != 10;
            check.due("square " + square, due, () -> works.isFree(board, place));
        }
        check.due("the other board is free", 64, () -> works.free(other));
        check.due("the sheet is kept", 4, () -> works.squares(sheet));
        check.due("lay again", 56, () -> works.lay(sheet, board));
        int full = works.addSheet();
        Build.fill(works, full);
        check.refused("it fits nowhere", UnsupportedOperationException.class, works, () -> works.lay(full, board));
        check.due("lay all", 0, () -> works.lay(full, other));
        check.refused("nothing is free", UnsupportedOperationException.class, works, () -> works.lay(sheet, other));
        turnedLay(check);
    }

    private static void turnedLay(Check check) {
        CubefoldWorks works = Build.works();
        int board = works.addBoard();
        int most = works.addSheet();
        Build.fill(works, most);
        for (int square : new int[] {0, 8, 16, 17}) {
            works.set(most, square, false);
        }
        works.lay(most, board);
        int hook = Build.sheet(works, 4, 12, 20, 19);
        check.due("the hook fits turned over", 400, () -> works.fits(hook, board));
        check.due("it is laid so", 0, () -> works.lay(hook, board));
    }

    private static void freeAndIsFree(Check check) {
        CubefoldWorks works = Build.works();
        check.promise(26);
        check.refused("no board", IndexOutOfBoundsException.class, works, () -> works.free(0));
        check.promise(27);
        check.refused("no board", IndexOutOfBoundsException.class, works, () -> works.isFree(0, 64));
        works.addBoard();
        int sheet = Build.sheet(works, 0, 63);
        check.due("the first square", true, () -> works.isFree(0, 0));
        check.due("the last square", true, () -> works.isFree(0, 63));
        works.lay(sheet, 0);
        check.due("the first square", false, () -> works.isFree(0, 0));
        check.due("the second square", true, () -> works.isFree(0, 1));
        check.due("the last square", false, () -> works.isFree(0, 63));
        for (int wrong : WRONG) {
            check.refused("isFree", IllegalArgumentException.class, works, () -> works.isFree(0, wrong));
            check.refused("isFree", IndexOutOfBoundsException.class, works, () -> works.isFree(wrong, 64));
        }
        check.refused("isFree", IndexOutOfBoundsException.class, works, () -> works.isFree(1, 0));
        check.promise(26);
        check.due("free", 62, () -> works.free(0));
        check.refused("board 1 of 1", IndexOutOfBoundsException.class, works, () -> works.free(1));
        check.refused("free", IndexOutOfBoundsException.class, works, () -> works.free(-1));
    }

    private static void cut(Check check) {
        check.promise(28);
        CubefoldWorks works = Build.works();
        check.refused("no sheet", IndexOutOfBoundsException.class, works, () -> works.cut(0));
        int sheet = works.addSheet();
        check.refused("without squares", UnsupportedOperationException.class, works, () -> works.cut(sheet));
        check.promise(29);
        check.due("it has cut nothing", 0, works::sharpen);
        check.promise(28);
        Build.fill(works, sheet);
        check.due("cut", 32, () -> works.cut(sheet));
        check.due("cut", 64, () -> works.cut(sheet));
        check.due("cut", 96, () -> works.cut(sheet));
        int one = Build.sheet(works, 5, 7);
        check.due("it is sharp at 96", 104, () -> works.cut(one));
        check.refused("it is blunt at 104", UnsupportedOperationException.class, works, () -> works.cut(one));
        check.refused("no sheet before blunt", IndexOutOfBoundsException.class, works, () -> works.cut(2));
        check.refused("cut", IndexOutOfBoundsException.class, works, () -> works.cut(-1));
        check.promise(29);
        check.due("sharpen", 104, works::sharpen);
        check.due("sharpen again", 0, works::sharpen);
        check.promise(28);
        check.due("cut after it", 8, () -> works.cut(one));
        works.sharpen();
        works.set(one, 7, false);
        for (int many = 1; many <= 25; many++) {
            int due = 4 * many;
            check.due("cut", due, () -> works.cut(one));
        }
        check.refused("it is blunt at 100", UnsupportedOperationException.class, works, () -> works.cut(one));
        check.due("it has still cut 100", 100, works::sharpen);
        works.set(one, 7, true);
        works.set(one, 1, true);
        for (int many = 1; many <= 8; many++) {
            works.cut(one);
        }
        works.set(one, 7, false);
        works.set(one, 1, false);
        works.set(one, 5, false);
        check.due("not blunt, but without squares", UnsupportedOperationException.class, () -> works.cut(one));
        check.due("it has cut 96", 96, works::sharpen);
    }
}
