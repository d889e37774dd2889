/** Makes bodies and sheets for the tests. */
final class Build {

    private Build() {
    }

    /** The eleven sheets that fold to a cube, as rows of squares. */
    static final String[] NETS = {
        "#...,####,#...", "#...,####,.#..", "#...,####,..#.", "#...,####,...#", ".#..,####,.#..", ".#..,####,..#.",
        "##...,.###,.#..", "##..,.###,..#.", "##..,.###,...#", "##..,.##.,..##", "###..,..###",
    };

    /** Two squares above each other, and four in the row between; it folds to a cube. */
    static final int[] CROSS = {1, 8, 9, 10, 17, 25};

    /** Eight cubes, as many as a body can have. */
    static final int[] BLOCK = {0, 1, 4, 5, 16, 17, 20, 21};

    /** Numbers that no cell and no square has, some of them with the lowest six bits of one that is. */
    static final int[] NO_PLACES = {-1, 64, 65, 127, 128, 256, 65536, -63, -64, Integer.MIN_VALUE,
        Integer.MIN_VALUE + 1, Integer.MAX_VALUE, Integer.MAX_VALUE - 63};

    static CubefoldWorks works() {
        return new CubefoldWorks();
    }

    /** One body, sheet and board each: a cube, a cross and free squares. */
    static CubefoldWorks one() {
        CubefoldWorks works = works();
        works.addBody(0);
        sheet(works, CROSS);
        works.addBoard();
        return works;
    }

    /** As much of all as there can be: bodies, cubes, sheets, boards and orders; a blunt knife; a die in the corner. */
    static CubefoldWorks full() {
        CubefoldWorks works = works();
        int[][] bodies = {{0}, {62, 63}, {0, 1, 5, 21}, {1, 0, 4, 20}, {0, 1, 2}, {63, 62, 58}, {42, 43, 47}, BLOCK};
        for (int[] cells : bodies) {
            body(works, cells);
        }
        int[][] sheets = {{}, {63}, CROSS, {}, {0, 63}, {5, 6}, {55, 63}, {0, 1, 8}};
        for (int[] squares : sheets) {
            sheet(works, squares);
        }
        fill(works, FULL_SHEET);
        for (int board = 0; board < 4; board++) {
            works.addBoard();
        }
        works.lay(FULL_SHEET, 3);
        works.lay(CROSS_SHEET, 2);
        works.patent(BARRED_SHEET);
        for (int order = 0; order <= 20; order++) {
            works.order(order % 2 == 0 ? CROSS_SHEET : 7, 99 - order / 4);
            if (order == 0) {
                works.make();
            }
        }
        for (int cut = 0; cut < 4; cut++) {
            works.cut(FULL_SHEET);
        }
        works.put(54);
        works.roll('e');
        works.roll('s');
        return works;
    }

    /** The sheets of the full works: without squares, a cross, with all squares, not one, and with a patent. */
    static final int EMPTY_SHEET = 0;
    static final int CROSS_SHEET = 2;
    static final int FULL_SHEET = 3;
    static final int APART_SHEET = 4;
    static final int BARRED_SHEET = 5;

    /** Numbers that none has, where so many are numbered from 0. */
    static int[] noneOf(int count) {
        return new int[] {-1, count, count + 1, count + 8, 64, 256, -count, -8, Integer.MIN_VALUE, Integer.MAX_VALUE};
    }

    static int body(CubefoldWorks works, int... cells) {
        int body = works.addBody(cells[0]);
        for (int index = 1; index < cells.length; index++) {
            works.addCube(body, cells[index]);
        }
        return body;
    }

    static int sheet(CubefoldWorks works, int... squares) {
        int sheet = works.addSheet();
        for (int square : squares) {
            works.set(sheet, square, true);
        }
        return sheet;
    }

    static int[] squaresOf(String rows, int x, int y) {
        int[] squares = new int[rows.replaceAll("[^#]", "").length()];
        int count = 0;
        int row = y;
        int column = x;
        for (char sign : rows.toCharArray()) {
            if (sign == '#') {
                squares[count++] = column + 8 * row;
            }
            column = sign == ',' ? x : column + 1;
            row = sign == ',' ? row + 1 : row;
        }
        return squares;
    }

    static void clear(CubefoldWorks works, int sheet) {
        for (int square = 0; square < 64; square++) {
            works.set(sheet, square, false);
        }
    }

    /** The works with all squares on this sheet. */
    static CubefoldWorks filled(CubefoldWorks works, int sheet) {
        fill(works, sheet);
        return works;
    }

    static void fill(CubefoldWorks works, int sheet) {
        for (int square = 0; square < 64; square++) {
            works.set(sheet, square, true);
        }
    }
}
