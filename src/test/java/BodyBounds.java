import java.util.ArrayList;
import java.util.Arrays;
import java.util.List;

/** The sentences of promises 1 to 10, and of the Terms on bodies, that name a boundary. */
final class BodyBounds {

    private static final String NO_BODY = "IndexOutOfBoundsException if there is no such body";
    private static final String NO_BODY_FOR_EITHER = "IndexOutOfBoundsException if there is no such body, for either";
    private static final String OUT_OF_RANGE = "IllegalArgumentException if a number is out of range";
    private static final String FIRST = "the exception that is documented first";

    /** Bodies that no turn and no mirror leaves as they are; the second one goes from rim to rim of the grid. */
    private static final int[][] UNEVEN = {{0, 1, 2, 5, 16}, {16, 17, 18, 19, 23, 27, 31, 15}};

    private final Check check;

    private interface OnBody {
        Object on(CubefoldWorks works, int body);
    }

    private BodyBounds(Check check) {
        this.check = check;
    }

    static void run(Check check) {
        BodyBounds bounds = new BodyBounds(check);
        bounds.grid();
        bounds.nextCells();
        bounds.skins();
        bounds.alikeAndMirrored();
        bounds.turnedAndMoved();
        bounds.addBody();
        bounds.addCube();
        bounds.takeCube();
        bounds.figuresOfOne();
        bounds.kinds();
        bounds.all();
    }

    private static CubefoldWorks of(int... cells) {
        CubefoldWorks works = Build.works();
        Build.body(works, cells);
        return works;
    }

    /** No body has a number but those of bodies that were added: of none, of one, of eight. */
    private void noSuchBody(OnBody call) {
        for (int none : new int[] {0, 1, -1, 7, Integer.MIN_VALUE, Integer.MAX_VALUE}) {
            check.refuses("of no bodies " + none, Check.INDEX, Build::works, works -> call.on(works, none));
        }
        for (int none : Build.noneOf(1)) {
            check.refuses("of one body " + none, Check.INDEX, Build::one, works -> call.on(works, none));
        }
        for (int none : Build.noneOf(8)) {
            check.refuses("of eight bodies " + none, Check.INDEX, Build::full, works -> call.on(works, none));
        }
    }

    private void grid() {
        check.sentence(0, "on cells of a grid, numbered from 0 to 63 by x and 4 y and 16 z, each of these from 0 to 3");
        int[][] rims = {{3, 4}, {7, 8}, {12, 16}, {15, 16}, {3, 16}, {47, 48}, {51, 52}, {28, 32}, {0, 63}, {0, 3},
            {0, 12}, {0, 48}};
        for (int[] rim : rims) {
            check.refuses(rim[1] + " is not next to " + rim[0], Check.UNSUPPORTED, () -> of(rim[0]),
                    works -> works.addCube(0, rim[1]));
            check.refuses(rim[0] + " is not next to " + rim[1], Check.UNSUPPORTED, () -> of(rim[1]),
                    works -> works.addCube(0, rim[0]));
        }
        int[][] lines = {{0, 1, 2, 3}, {0, 4, 8, 12}, {0, 16, 32, 48}, {63, 62, 61, 60}, {63, 59, 55, 51},
            {63, 47, 31, 15}};
        for (int[] line : lines) {
            check.due("a line through the grid from " + line[0], 4, () -> of(line).cubes(0));
            check.due("all lines through the grid are alike", true, () -> {
                CubefoldWorks works = of(line);
                Build.body(works, 21, 22, 23, 20);
                return works.areAlike(0, 1) && works.areMirrored(1, 0);
            });
        }
    }

    private void nextCells() {
        check.sentence(0, "Cells are next to each other if one of x, y, z differs by 1, and no other one differs");
        for (int step : new int[] {1, -1, 4, -4, 16, -16}) {
            check.due("one differs by 1: " + step, 2, () -> of(21).addCube(0, 21 + step));
        }
        for (int step : new int[] {2, -8, 32, 5, -5, 3, -3, 17, -15, 20, -12, 21, -21, 42}) {
            int cell = 21 + step;
            check.refuses("more differs: " + step, Check.UNSUPPORTED, () -> of(21), works -> works.addCube(0, cell));
        }
        check.sentence(0, "A body is one: all its cubes are joined over such cells");
        check.due("round a hole, one is taken", 7, () -> of(0, 1, 2, 6, 10, 9, 8, 4).takeCube(0, 4));
        check.refuses("of a line the middle is taken", Check.UNSUPPORTED, () -> of(21, 37, 53),
                works -> works.takeCube(0, 37));
        check.refuses("joined over an edge of cubes alone", Check.UNSUPPORTED, () -> of(0, 1, 5),
                works -> works.takeCube(0, 1));
        check.refuses("joined over a corner of cubes alone", Check.UNSUPPORTED, () -> of(0, 1, 5, 21),
                works -> works.takeCube(0, 1));
    }

    private void skins() {
        check.sentence(0, "Its skin are the faces of cubes at which no cube of it lies");
        check.due("the rim of the grid is no cube", 6, () -> of(63).skin(0));
        check.due("two cubes at the rim", 10, () -> of(63, 62).skin(0));
        check.due("a cube of another body beside it", 6, () -> {
            CubefoldWorks works = of(21);
            works.addBody(22);
            return works.skin(0);
        });
        check.due("a cube of another body at the same cell", 6, () -> {
            CubefoldWorks works = of(21);
            works.addBody(21);
            return works.skin(1);
        });
        check.due("the next row is not beside the rim", 14, () -> of(3, 7, 6).skin(0));
        check.due("ends of rows that only numbers bring together", 22, () -> of(3, 2, 6, 5, 4).skin(0));
        check.due("the faces within a ring are skin", 32, () -> of(0, 1, 2, 6, 10, 9, 8, 4).skin(0));
    }

    private void alikeAndMirrored() {
        check.sentence(0, "two bodies, or one and itself, may be both");
        CubefoldWorks works = of(0, 1, 2);
        Build.body(works, 63, 47, 31);
        Build.body(works, 0, 1, 5, 21);
        Build.body(works, 1, 0, 4, 20);
        check.due("two that are both", "true true", () -> works.areAlike(0, 1) + " " + works.areMirrored(0, 1));
        check.due("one that is both", "true true", () -> works.areAlike(0, 0) + " " + works.areMirrored(0, 0));
        check.due("two that are mirrored alone", "false true",
                () -> works.areAlike(2, 3) + " " + works.areMirrored(2, 3));
        check.due("one that is alike alone", "true false", () -> works.areAlike(2, 2) + " " + works.areMirrored(2, 2));
        check.due("two that are neither", "false false",
                () -> works.areAlike(0, 2) + " " + works.areMirrored(0, 2));
    }

    private void turnedAndMoved() {
        for (int[] cells : UNEVEN) {
            int[] fewer = Arrays.copyOf(cells, cells.length - 1);
            for (int determinant : new int[] {1, -1}) {
                for (int[][] matrix : Model.turns(determinant)) {
                    for (int[] other : movedAnywhere(matrix, cells)) {
                        alikeOrMirrored(cells, other, determinant);
                        alikeOrMirrored(fewer, other, 0);
                    }
                }
            }
        }
    }

    /** Alike if the determinant is 1, mirrored if it is -1, and neither if it is 0. */
    private void alikeOrMirrored(int[] cells, int[] other, int determinant) {
        CubefoldWorks works = of(cells);
        Build.body(works, other);
        String what = Arrays.toString(cells) + " and " + Arrays.toString(other);
        check.sentence(0, "Bodies are alike if one becomes the other one by turns and by being moved");
        check.due(what, determinant == 1, () -> works.areAlike(0, 1));
        check.due(what, determinant == 1 ? 1 : 2, works::kinds);
        check.sentence(0, "they are mirrored if one becomes the other one by turns, being moved, and a mirror");
        check.due(what, determinant == -1, () -> works.areMirrored(0, 1));
    }

    /** The body turned by the matrix, at each place of the grid that has room for it. */
    private static List<int[]> movedAnywhere(int[][] matrix, int[] cells) {
        List<int[]> found = new ArrayList<>();
        for (int move = 0; move < 64; move++) {
            int[] moved = new int[cells.length];
            boolean isRoom = true;
            for (int row = 2; row >= 0; row--) {
                int least = 3;
                for (int cell : cells) {
                    least = Math.min(least, along(matrix[row], cell));
                }
                for (int index = 0; index < cells.length; index++) {
                    int at = along(matrix[row], cells[index]) - least + (move >> 2 * row & 3);
                    isRoom &= at <= 3;
                    moved[index] = 4 * moved[index] + at;
                }
            }
            if (isRoom) {
                found.add(moved);
            }
        }
        return found;
    }

    private static int along(int[] row, int cell) {
        return row[0] * (cell & 3) + row[1] * (cell >> 2 & 3) + row[2] * (cell >> 4);
    }

    private void addBody() {
        check.sentence(2, "cell: 0 to 63");
        for (int place = 0; place < 64; place++) {
            int cell = place;
            check.due("addBody(" + cell + ")", 0, () -> Build.works().addBody(cell));
            check.due("the cube is at " + cell, 31L * (31 * (31 * 7 + cell)) + 6, () -> of(cell).checksum());
        }
        check.sentence(2, OUT_OF_RANGE);
        for (int wrong : Build.NO_PLACES) {
            check.refuses("addBody(" + wrong + ")", Check.ARGUMENT, Build::one, works -> works.addBody(wrong));
        }
        check.sentence(0, "At most 8 bodies are numbered from 0");
        CubefoldWorks eight = Build.works();
        for (int number = 0; number < 8; number++) {
            int due = number;
            check.due("body " + due, due, () -> eight.addBody(63));
        }
        check.due("the ninth", Check.STATE, () -> eight.addBody(63));
        check.sentence(2, "IllegalStateException if there are 8");
        check.refuses("a ninth body", Check.STATE, Build::full, works -> works.addBody(0));
        check.refuses("a ninth body", Check.STATE, Build::full, works -> works.addBody(63));
        check.sentence(2, FIRST);
        check.refuses("there are 8, and below the range", Check.ARGUMENT, Build::full, works -> works.addBody(-1));
        check.refuses("there are 8, and beyond the range", Check.ARGUMENT, Build::full, works -> works.addBody(64));
    }

    private void addCube() {
        check.sentence(3, "cell: 0 to 63");
        check.due("the first cell", 2, () -> of(1).addCube(0, 0));
        check.due("the last cell", 2, () -> of(62).addCube(0, 63));
        check.sentence(3, NO_BODY);
        check.due("the first of eight", 2, () -> Build.full().addCube(0, 1));
        check.due("the last but one of eight", 4, () -> Build.full().addCube(6, 46));
        noSuchBody((works, body) -> works.addCube(body, 1));
        check.sentence(3, OUT_OF_RANGE);
        for (int wrong : Build.NO_PLACES) {
            check.refuses("addCube(0, " + wrong + ")", Check.ARGUMENT, Build::one, works -> works.addCube(0, wrong));
        }
        check.sentence(3, "UnsupportedOperationException if a cube of it is there, or none is next to it");
        check.refuses("its only cube is there", Check.UNSUPPORTED, Build::one, works -> works.addCube(0, 0));
        check.refuses("its last cube is there", Check.UNSUPPORTED, () -> of(62, 63), works -> works.addCube(0, 63));
        check.refuses("none is next to it", Check.UNSUPPORTED, Build::one, works -> works.addCube(0, 5));
        check.refuses("the farthest cell", Check.UNSUPPORTED, Build::one, works -> works.addCube(0, 63));
        check.refuses("next to a cube of another body alone", Check.UNSUPPORTED, Build::full,
                works -> works.addCube(0, 61));
        check.due("a cube of another body is there", 2, () -> Build.full().addCube(0, 4));
        check.sentence(0, "each of 1 to 8 cubes");
        CubefoldWorks growing = of(0);
        int[] line = {1, 2, 3, 7, 11, 15, 31};
        for (int index = 0; index < line.length; index++) {
            int cell = line[index];
            check.due("cube " + (index + 2), index + 2, () -> growing.addCube(0, cell));
        }
        check.due("a ninth", Check.STATE, () -> growing.addCube(0, 47));
        for (int index = line.length - 1; index >= 0; index--) {
            int cell = line[index];
            check.due("cubes after " + cell + " is taken", index + 1, () -> growing.takeCube(0, cell));
        }
        check.due("the last one", Check.UNSUPPORTED, () -> growing.takeCube(0, 0));
        check.sentence(3, "IllegalStateException if it has 8");
        check.due("the eighth", 8, () -> of(0, 1, 4, 5, 16, 17, 20).addCube(0, 21));
        check.refuses("a ninth", Check.STATE, () -> of(Build.BLOCK), works -> works.addCube(0, 2));
        check.refuses("a ninth of the last body", Check.STATE, Build::full, works -> works.addCube(7, 37));
        check.due("an eighth again", 8, () -> {
            CubefoldWorks works = of(Build.BLOCK);
            works.takeCube(0, 0);
            return works.addCube(0, 2);
        });
        check.sentence(3, FIRST);
        for (int wrong : new int[] {-1, 64}) {
            check.refuses("no body, no cell", Check.INDEX, Build::full, works -> works.addCube(8, wrong));
            check.refuses("no cell, it has 8", Check.ARGUMENT, Build::full, works -> works.addCube(7, wrong));
        }
        check.refuses("a cube is there, it has 8", Check.UNSUPPORTED, Build::full, works -> works.addCube(7, 21));
        check.refuses("none is next, it has 8", Check.UNSUPPORTED, Build::full, works -> works.addCube(7, 63));
    }

    private void takeCube() {
        check.sentence(4, "cell: 0 to 63");
        check.due("the first cell", 1, () -> of(0, 1).takeCube(0, 0));
        check.due("the last cell", 1, () -> of(62, 63).takeCube(0, 63));
        check.sentence(4, NO_BODY);
        check.due("the second of eight", 1, () -> Build.full().takeCube(1, 63));
        check.due("the last of eight", 7, () -> Build.full().takeCube(7, 0));
        noSuchBody((works, body) -> works.takeCube(body, 0));
        check.sentence(4, OUT_OF_RANGE);
        for (int wrong : Build.NO_PLACES) {
            check.refuses("takeCube(0, " + wrong + ")", Check.ARGUMENT, () -> of(0, 1),
                    works -> works.takeCube(0, wrong));
        }
        check.sentence(4, "NoSuchElementException if no cube of it is there");
        check.refuses("no cube is there", Check.ELEMENT, () -> of(0, 1), works -> works.takeCube(0, 2));
        check.refuses("a cube of another body is there", Check.ELEMENT, Build::full, works -> works.takeCube(1, 0));
        check.refuses("no cube is there any more", Check.ELEMENT, () -> {
            CubefoldWorks works = of(0, 1, 2);
            works.takeCube(0, 2);
            return works;
        }, works -> works.takeCube(0, 2));
        check.sentence(4, "UnsupportedOperationException if it would have none, or not be one");
        check.refuses("it would have none", Check.UNSUPPORTED, () -> of(0), works -> works.takeCube(0, 0));
        check.refuses("it would have none", Check.UNSUPPORTED, () -> of(63), works -> works.takeCube(0, 63));
        check.due("it would have one", 1, () -> of(0, 1).takeCube(0, 1));
        check.refuses("it would not be one", Check.UNSUPPORTED, () -> of(0, 1, 2), works -> works.takeCube(0, 1));
        check.refuses("a star of eight without its middle", Check.UNSUPPORTED, () -> of(21, 20, 22, 17, 25, 5, 37, 53),
                works -> works.takeCube(0, 21));
        check.sentence(4, FIRST);
        for (int wrong : new int[] {-1, 64}) {
            check.refuses("no body, no cell", Check.INDEX, Build::full, works -> works.takeCube(8, wrong));
        }
        check.refuses("no cell, and no cube there", Check.ARGUMENT, () -> of(0), works -> works.takeCube(0, 64));
        check.refuses("no cube there, and it has but one", Check.ELEMENT, () -> of(0), works -> works.takeCube(0, 1));
        check.refuses("no cube there, between two", Check.ELEMENT, () -> of(0, 4, 5, 6, 2),
                works -> works.takeCube(0, 1));
    }

    private void figuresOfOne() {
        check.sentence(5, NO_BODY);
        check.due("the first of eight", 1, () -> Build.full().cubes(0));
        check.due("the last of eight", 8, () -> Build.full().cubes(7));
        noSuchBody(CubefoldWorks::cubes);
        check.sentence(6, NO_BODY);
        check.due("the first of eight", 6, () -> Build.full().skin(0));
        check.due("the last of eight", 24, () -> Build.full().skin(7));
        noSuchBody(CubefoldWorks::skin);
        check.sentence(6, "skin: the least and the greatest");
        check.due("one cube", 6, () -> of(42).skin(0));
        check.due("eight cubes with the least skin", 24, () -> of(Build.BLOCK).skin(0));
        check.due("eight cubes with the greatest skin", 34, () -> of(0, 1, 2, 3, 7, 11, 15, 31).skin(0));
        check.sentence(7, NO_BODY_FOR_EITHER);
        check.due("the last of eight and itself", true, () -> Build.full().areAlike(7, 7));
        check.due("the first and the last of eight", false, () -> Build.full().areAlike(0, 7));
        noSuchBody((works, body) -> works.areAlike(body, 0));
        noSuchBody((works, body) -> works.areAlike(0, body));
        noSuchBody((works, body) -> works.areAlike(body, body));
        check.sentence(7, "other: the other body, or the same");
        check.due("the same", true, () -> of(0, 1, 5, 21).areAlike(0, 0));
        check.sentence(8, NO_BODY_FOR_EITHER);
        check.due("the last of eight and itself", true, () -> Build.full().areMirrored(7, 7));
        check.due("the first and the last of eight", false, () -> Build.full().areMirrored(0, 7));
        noSuchBody((works, body) -> works.areMirrored(body, 0));
        noSuchBody((works, body) -> works.areMirrored(0, body));
        noSuchBody((works, body) -> works.areMirrored(body, body));
        check.sentence(8, "other: the other body, or the same");
        check.due("the same, which no mirror changes", true, () -> of(0, 1, 5).areMirrored(0, 0));
        check.due("the same, which a mirror changes", false, () -> of(0, 1, 5, 21).areMirrored(0, 0));
    }

    private void kinds() {
        check.sentence(9, "kinds: of no bodies, of eight alike, of eight unlike");
        check.due("of no bodies", 0, () -> Build.works().kinds());
        CubefoldWorks alike = Build.works();
        CubefoldWorks unlike = Build.works();
        int[] line = {0, 1, 2, 3, 7, 11, 15, 14};
        for (int number = 0; number < 8; number++) {
            alike.addBody(9 * number);
            Build.body(unlike, Arrays.copyOf(line, number + 1));
            int due = number + 1;
            check.due("alike ones", 1, alike::kinds);
            check.due("unlike ones", due, unlike::kinds);
        }
        check.due("of the full works", 7, () -> Build.full().kinds());
        CubefoldWorks changed = Build.works();
        Build.body(changed, 0, 1);
        Build.body(changed, 0, 1, 2);
        check.due("two", 2, changed::kinds);
        changed.takeCube(1, 2);
        check.due("the second becomes alike to the first", 1, changed::kinds);
        changed.addCube(0, 4);
        check.due("the first becomes unlike to the second", 2, changed::kinds);
    }

    private void all() {
        check.sentence(10, "cubes: 1 to 4");
        int[] dues = {1, 1, 2, 8};
        for (int cubes = 1; cubes <= 4; cubes++) {
            int many = cubes;
            check.due("all(" + many + ")", dues[many - 1], () -> Build.works().all(many));
            check.due("all(" + many + ") of a full works", dues[many - 1], () -> Build.full().all(many));
        }
        check.sentence(10, OUT_OF_RANGE);
        for (int wrong : new int[] {0, 5, -1, -4, 8, 256, 260, Integer.MIN_VALUE, Integer.MIN_VALUE + 1,
            Integer.MAX_VALUE}) {
            check.refuses("all(" + wrong + ")", Check.ARGUMENT, Build::one, works -> works.all(wrong));
        }
    }
}
