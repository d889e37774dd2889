import java.util.NoSuchElementException;

/** Promises 11 to 17. */
final class SheetsTest {

    private static final int[] WRONG = {-1, 64, Integer.MIN_VALUE, Integer.MAX_VALUE};

    private SheetsTest() {
    }

    static void run(Check check) {
        addSheet(check);
        set(check);
        squares(check);
        edge(check);
        isOne(check);
        areLike(check);
        ways(check);
    }

    private static void addSheet(Check check) {
        check.promise(11);
        CubefoldWorks works = Build.works();
        for (int number = 0; number < 8; number++) {
            int due = number;
            check.due("addSheet", due, works::addSheet);
            check.due("a new sheet has no squares", 0, () -> works.squares(due));
        }
        check.refused("a ninth sheet", IllegalStateException.class, works, works::addSheet);
    }

    private static void set(Check check) {
        check.promise(12);
        CubefoldWorks works = Build.works();
        check.refused("no sheet", IndexOutOfBoundsException.class, works, () -> works.set(0, 64, true));
        works.addSheet();
        works.addSheet();
        for (int wrong : WRONG) {
            check.refused("no such sheet", IndexOutOfBoundsException.class, works, () -> works.set(wrong, 0, true));
            check.refused("nor square", IndexOutOfBoundsException.class, works, () -> works.set(wrong, 64, true));
            check.refused("no such square", IllegalArgumentException.class, works, () -> works.set(0, wrong, true));
            check.refused("none to take", IllegalArgumentException.class, works, () -> works.set(0, wrong, false));
        }
        check.refused("sheet 2 of 2", IndexOutOfBoundsException.class, works, () -> works.set(2, 0, true));
        for (int square : new int[] {0, 31, 32, 63}) {
            check.due("set false where none is", false, () -> works.set(0, square, false));
            check.due("set true where none is", false, () -> works.set(0, square, true));
            check.due("set true where one is", true, () -> works.set(0, square, true));
            check.due("one square", 1, () -> works.squares(0));
            check.due("not of the other sheet", 0, () -> works.squares(1));
            check.due("set false where one is", true, () -> works.set(0, square, false));
            check.due("no square", 0, () -> works.squares(0));
        }
    }

    private static void squares(Check check) {
        check.promise(13);
        CubefoldWorks works = Build.works();
        check.refused("no sheet", IndexOutOfBoundsException.class, works, () -> works.squares(0));
        int sheet = works.addSheet();
        for (int square = 0; square < 64; square++) {
            int before = square;
            check.due("squares", before, () -> works.squares(sheet));
            works.set(sheet, square, true);
        }
        check.due("squares of a full sheet", 64, () -> works.squares(sheet));
        check.refused("squares", IndexOutOfBoundsException.class, works, () -> works.squares(1));
        check.refused("squares", IndexOutOfBoundsException.class, works, () -> works.squares(-1));
    }

    private static void edge(Check check) {
        check.promise(14);
        CubefoldWorks works = Build.works();
        check.refused("no sheet", IndexOutOfBoundsException.class, works, () -> works.edge(0));
        int sheet = works.addSheet();
        check.due("edge of none", 0, () -> works.edge(sheet));
        works.set(sheet, 7, true);
        check.due("edge of one", 4, () -> works.edge(sheet));
        works.set(sheet, 8, true);
        check.due("rows do not join", 8, () -> works.edge(sheet));
        works.set(sheet, 15, true);
        check.due("squares in a column", 10, () -> works.edge(sheet));
        Build.fill(works, sheet);
        check.due("edge of all", 32, () -> works.edge(sheet));
        works.set(sheet, 27, false);
        check.due("a hole has an edge", 36, () -> works.edge(sheet));
        works.set(sheet, 63, false);
        check.due("a corner less has none", 36, () -> works.edge(sheet));
        int apart = Build.sheet(works, 0, 2, 16, 18);
        check.due("edge of four apart", 16, () -> works.edge(apart));
        check.refused("edge", IndexOutOfBoundsException.class, works, () -> works.edge(2));
        check.refused("edge", IndexOutOfBoundsException.class, works, () -> works.edge(-1));
    }

    private static void isOne(Check check) {
        check.promise(15);
        CubefoldWorks works = Build.works();
        check.refused("no sheet", IndexOutOfBoundsException.class, works, () -> works.isOne(0));
        int sheet = works.addSheet();
        check.due("without squares", false, () -> works.isOne(sheet));
        works.set(sheet, 63, true);
        check.due("one square", true, () -> works.isOne(sheet));
        works.set(sheet, 54, true);
        check.due("over a corner", false, () -> works.isOne(sheet));
        works.set(sheet, 55, true);
        check.due("joined", true, () -> works.isOne(sheet));
        works.set(sheet, 48, true);
        check.due("over the rim", false, () -> works.isOne(sheet));
        int snake = works.addSheet();
        for (int row = 0; row < 8; row++) {
            for (int column = 0; column < 8; column++) {
                boolean is = row % 2 == 0 || column == (row % 4 == 1 ? 7 : 0);
                works.set(snake, column + 8 * row, is);
            }
        }
        check.due("a snake", true, () -> works.isOne(snake));
        works.set(snake, 35, false);
        check.due("a cut snake", false, () -> works.isOne(snake));
        check.refused("isOne", IndexOutOfBoundsException.class, works, () -> works.isOne(2));
        check.refused("isOne", IndexOutOfBoundsException.class, works, () -> works.isOne(-1));
    }

    private static void areLike(Check check) {
        check.promise(16);
        CubefoldWorks works = Build.works();
        check.refused("no sheet", IndexOutOfBoundsException.class, works, () -> works.areLike(0, 0));
        works.addSheet();
        works.addSheet();
        check.due("neither has a square", true, () -> works.areLike(0, 1));
        check.due("a sheet and itself", true, () -> works.areLike(1, 1));
        works.set(0, 40, true);
        check.due("one has a square", false, () -> works.areLike(0, 1));
        check.due("the other way round", false, () -> works.areLike(1, 0));
        for (int turn = 0; turn < 8; turn++) {
            CubefoldWorks other = Build.works();
            Build.sheet(other, 0, 1, 2, 10, 13);
            other.addSheet();
            for (int square : new int[] {0, 1, 2, 10, 13}) {
                other.set(1, Model.turnedSquare(square, turn), true);
            }
            check.due("turn " + turn, true, () -> other.areLike(0, 1));
            other.set(1, Model.turnedSquare(13, turn), false);
            other.set(1, Model.turnedSquare(14, turn), true);
            check.due("another sheet, turn " + turn, false, () -> other.areLike(0, 1));
        }
        Build.sheet(works, 0, 1, 8);
        Build.sheet(works, 63, 62, 55);
        Build.sheet(works, 26, 27, 28);
        check.due("moved and turned", true, () -> works.areLike(2, 3));
        check.due("an angle and a line", false, () -> works.areLike(3, 4));
        for (int wrong : new int[] {-1, 5, 8, Integer.MIN_VALUE, Integer.MAX_VALUE}) {
            check.refused("areLike", IndexOutOfBoundsException.class, works, () -> works.areLike(wrong, 0));
            check.refused("areLike", IndexOutOfBoundsException.class, works, () -> works.areLike(0, wrong));
        }
    }

    private static void ways(Check check) {
        check.promise(17);
        int[][] sheets = {{}, {63}, {0, 1}, {0, 9}, {0, 1, 8}, {0, 1, 2, 8}, {1, 2, 8, 9}, {0, 1, 2, 9},
            {0, 1, 8, 9}, {1, 8, 9, 10, 17}, {0, 1, 2, 10, 18}, {0, 1, 9, 17, 18}, {0, 3, 24, 27}, {1, 11, 16, 26},
            {0, 1, 2, 10, 13}};
        int[] dues = {1, 1, 2, 2, 4, 8, 4, 4, 1, 1, 4, 4, 1, 2, 8};
        for (int index = 0; index < sheets.length; index++) {
            int due = dues[index];
            CubefoldWorks works = Build.works();
            Build.sheet(works, sheets[index]);
            check.due("ways of sheet " + index, due, () -> works.ways(0));
        }
        CubefoldWorks works = Build.works();
        check.refused("no sheet", IndexOutOfBoundsException.class, works, () -> works.ways(0));
        works.addSheet();
        Build.fill(works, 0);
        check.due("ways of a full sheet", 1, () -> works.ways(0));
        check.refused("ways", IndexOutOfBoundsException.class, works, () -> works.ways(1));
        check.refused("ways", IndexOutOfBoundsException.class, works, () -> works.ways(-1));
        check.promise(36);
        check.due("no sheet is barred at first", NoSuchElementException.class, () -> works.patentOf(0));
    }
}
