/** Makes bodies and sheets for the tests, and tells what a works answers without changing it. */
final class Build {

    private Build() {
    }

    /** The eleven sheets that fold to a cube, as rows of squares. */
    static final String[] NETS = {
        "#...,####,#...", "#...,####,.#..", "#...,####,..#.", "#...,####,...#", ".#..,####,.#..", ".#..,####,..#.",
        "##...,.###,.#..", "##..,.###,..#.", "##..,.###,...#", "##..,.##.,..##", "###..,..###",
    };

    static CubefoldWorks works() {
        return new CubefoldWorks();
    }

    static int body(CubefoldWorks works, int... cells) {
        int body = works.addBody(cells[0]);
        for (int index = 1; index < cells.length; index++) {
            works.addCube(body, cells[index]);
        }
        return body;
    }

    static int sheet(CubefoldWorks works, int... squares) {
        int sheet = works.addSheet();
        for (int square : squares) {
            works.set(sheet, square, true);
        }
        return sheet;
    }

    static int[] squaresOf(String rows, int x, int y) {
        int[] squares = new int[rows.replaceAll("[^#]", "").length()];
        int count = 0;
        int row = y;
        int column = x;
        for (char sign : rows.toCharArray()) {
            if (sign == '#') {
                squares[count++] = column + 8 * row;
            }
            column = sign == ',' ? x : column + 1;
            row = sign == ',' ? row + 1 : row;
        }
        return squares;
    }

    static void clear(CubefoldWorks works, int sheet) {
        for (int square = 0; square < 64; square++) {
            works.set(sheet, square, false);
        }
    }

    static void fill(CubefoldWorks works, int sheet) {
        for (int square = 0; square < 64; square++) {
            works.set(sheet, square, true);
        }
    }

    /** All that the calls tell that change nothing. */
    static String picture(CubefoldWorks works) {
        StringBuilder picture = new StringBuilder();
        picture.append(works.checksum()).append(' ').append(works.earned()).append(' ').append(works.kinds());
        picture.append(' ').append(works.below()).append(works.onTop()).append(works.rolls(0, 1));
        picture.append(works.rolls(0, 2)).append(works.rolls(0, 3));
        picture.append(' ').append(Check.outcome(works::usedShare)).append(Check.outcome(works::meanSkin));
        for (int number = 0; number < 8; number++) {
            int one = number;
            picture.append(' ').append(Check.outcome(() -> works.cubes(one)));
            picture.append(' ').append(Check.outcome(() -> works.squares(one)));
            picture.append(' ').append(Check.outcome(() -> works.patentOf(one)));
            for (int square = 0; square < 64; square++) {
                int place = square;
                picture.append(Check.outcome(() -> works.isFree(one, place)) == Boolean.TRUE ? '.' : '#');
            }
        }
        return picture.toString();
    }
}
