import java.util.NoSuchElementException;
import java.util.Set;
import java.util.TreeSet;

/** Promises 18 to 22. */
final class CubesTest {

    private static final int[] WRONG = {-1, 64, Integer.MIN_VALUE, Integer.MAX_VALUE};

    /** Two squares above each other, and four in the row between. */
    private static final int[] CROSS = {1, 8, 9, 10, 17, 25};

    private CubesTest() {
    }

    static void run(Check check) {
        folds(check);
        allHexominoes(check);
        opposite(check);
        cubeAdds(check);
        depth(check);
        fold(check);
        longestPath(check);
    }

    private static void folds(Check check) {
        check.promise(18);
        CubefoldWorks none = Build.works();
        check.refused("no sheet", IndexOutOfBoundsException.class, none, () -> none.folds(0));
        none.addSheet();
        check.due("without squares", false, () -> none.folds(0));
        check.refused("folds", IndexOutOfBoundsException.class, none, () -> none.folds(1));
        check.refused("folds", IndexOutOfBoundsException.class, none, () -> none.folds(-1));
        for (String net : Build.NETS) {
            for (int turn = 0; turn < 8; turn++) {
                CubefoldWorks works = Build.works();
                works.addSheet();
                for (int square : Build.squaresOf(net, 2, 3)) {
                    works.set(0, Model.turnedSquare(square, turn), true);
                }
                check.due("net " + net + " at turn " + turn, true, () -> works.folds(0));
            }
        }
        String[] others = {"######", "###,###", "##...,#####", "##,##,.#,.#", "####,#..#", "#####", "####,.##",
            "#..,###,#.#", "###.,.###,.#", "#...,####,#...,#", "##.,.##,..#,#", "###,#.#,###", "#.#.#.#,.#.#.#"};
        for (String other : others) {
            CubefoldWorks works = Build.works();
            Build.sheet(works, Build.squaresOf(other, 0, 0));
            check.due("sheet " + other, false, () -> works.folds(0));
        }
        CubefoldWorks works = Build.works();
        Build.sheet(works, 7, 8, 15, 16, 23, 31);
        check.due("rows do not join at the rim", false, () -> works.folds(0));
    }

    /** Of the 35 sheets of six squares that are one and unlike, eleven fold. */
    private static void allHexominoes(Check check) {
        Set<String> shapes = Model.sheetShapes(6);
        check.due("sheets of six squares", 35, shapes::size);
        int folding = 0;
        for (String shape : shapes) {
            CubefoldWorks works = Build.works();
            Build.sheet(works, Model.squaresOfShape(shape));
            folding += works.folds(0) ? 1 : 0;
        }
        int found = folding;
        check.due("sheets that fold", 11, () -> found);
    }

    private static void opposite(Check check) {
        check.promise(19);
        CubefoldWorks works = Build.works();
        check.refused("no sheet", IndexOutOfBoundsException.class, works, () -> works.opposite(0, 64));
        Build.sheet(works, CROSS);
        int[] others = {17, 10, 25, 8, 1, 9};
        for (int index = 0; index < CROSS.length; index++) {
            int square = CROSS[index];
            int due = others[index];
            check.due("opposite(0, " + square + ")", due, () -> works.opposite(0, square));
        }
        check.refused("a square it lacks", NoSuchElementException.class, works, () -> works.opposite(0, 0));
        for (int wrong : WRONG) {
            check.refused("no such sheet", IndexOutOfBoundsException.class, works, () -> works.opposite(wrong, 1));
            check.refused("no such square", IllegalArgumentException.class, works, () -> works.opposite(0, wrong));
        }
        works.addSheet();
        check.refused("without squares", UnsupportedOperationException.class, works, () -> works.opposite(1, 0));
        check.refused("out of range first", IllegalArgumentException.class, works, () -> works.opposite(1, 64));
        check.refused("sheet 2 of 2", IndexOutOfBoundsException.class, works, () -> works.opposite(2, 64));
        works.set(0, 25, false);
        check.refused("five squares", UnsupportedOperationException.class, works, () -> works.opposite(0, 1));
        check.refused("five, and none there", UnsupportedOperationException.class, works, () -> works.opposite(0, 25));
        stairs(check);
    }

    private static void stairs(Check check) {
        CubefoldWorks works = Build.works();
        Build.sheet(works, Build.squaresOf("##..,.##.,..##", 4, 5));
        int[] squares = {44, 45, 53, 54, 62, 63};
        int[] others = {54, 62, 63, 44, 45, 53};
        for (int index = 0; index < squares.length; index++) {
            int square = squares[index];
            int due = others[index];
            check.due("opposite in the stairs", due, () -> works.opposite(0, square));
        }
    }

    private static void cubeAdds(Check check) {
        check.promise(20);
        CubefoldWorks works = Build.works();
        check.refused("no sheet", IndexOutOfBoundsException.class, works, () -> works.cubeAdds(0));
        works.addSheet();
        check.due("without squares", 0, () -> works.cubeAdds(0));
        check.refused("cubeAdds", IndexOutOfBoundsException.class, works, () -> works.cubeAdds(1));
        check.refused("cubeAdds", IndexOutOfBoundsException.class, works, () -> works.cubeAdds(-1));
        String[] sheets = {"###,.#,.#", ".#,###,.#", "####", "#####", "####,#", "##,##,#", "##,.##,..##",
            "#...,####,#...", "##.,...,.##"};
        for (String sheet : sheets) {
            for (int corner : new int[] {0, 27}) {
                CubefoldWorks other = Build.works();
                int[] squares = Build.squaresOf(sheet, corner % 8, corner / 8);
                Build.sheet(other, squares);
                int due = Model.countCubeAdds(squares);
                check.due("cubeAdds of " + sheet + " at " + corner, due, () -> other.cubeAdds(0));
            }
        }
        CubefoldWorks plus = Build.works();
        Build.sheet(plus, Build.squaresOf(".#,###,.#", 2, 2));
        check.due("a plus of five within", 4, () -> plus.cubeAdds(0));
        CubefoldWorks corner = Build.works();
        Build.sheet(corner, Build.squaresOf(".#,###,.#", 0, 0));
        check.due("a plus of five in the corner", 2, () -> corner.cubeAdds(0));
        CubefoldWorks gap = Build.works();
        Build.sheet(gap, 0, 8, 9, 11, 19);
        check.due("two pieces that a square joins", 1, () -> gap.cubeAdds(0));
        check.due("it asks alone", 5, () -> gap.squares(0));
        CubefoldWorks ends = Build.works();
        Build.sheet(ends, 8, 9, 10, 11, 16);
        check.due("beside the first row", 4, () -> ends.cubeAdds(0));
        CubefoldWorks last = Build.works();
        Build.sheet(last, 63 - 8, 63 - 9, 63 - 10, 63 - 11, 63 - 16);
        check.due("beside the last row", 4, () -> last.cubeAdds(0));
        CubefoldWorks done = Build.works();
        Build.sheet(done, CROSS);
        check.due("a sheet that folds", 0, () -> done.cubeAdds(0));
    }

    private static void depth(Check check) {
        check.promise(21);
        CubefoldWorks works = Build.works();
        check.refused("no sheet", IndexOutOfBoundsException.class, works, () -> works.depth(0, 64, 64));
        Build.sheet(works, CROSS);
        check.due("the base", 0, () -> works.depth(0, 9, 9));
        check.due("next to it", 1, () -> works.depth(0, 9, 1));
        check.due("two off", 2, () -> works.depth(0, 9, 25));
        check.due("from another base", 3, () -> works.depth(0, 1, 25));
        for (int wrong : WRONG) {
            check.refused("no such sheet", IndexOutOfBoundsException.class, works, () -> works.depth(wrong, 64, 64));
            check.refused("no such base", IllegalArgumentException.class, works, () -> works.depth(0, wrong, 9));
            check.refused("no such square", IllegalArgumentException.class, works, () -> works.depth(0, 9, wrong));
            check.refused("square before base", IllegalArgumentException.class, works,
                    () -> works.depth(0, 0, wrong));
        }
        check.refused("a base it lacks", NoSuchElementException.class, works, () -> works.depth(0, 0, 9));
        check.refused("a square it lacks", NoSuchElementException.class, works, () -> works.depth(0, 9, 0));
        works.set(0, 63, true);
        check.refused("not one", UnsupportedOperationException.class, works, () -> works.depth(0, 9, 25));
        check.refused("not one, and no base", UnsupportedOperationException.class, works, () -> works.depth(0, 0, 9));
        check.refused("not one, out of range", IllegalArgumentException.class, works, () -> works.depth(0, 9, 64));
        works.addSheet();
        check.refused("without squares", UnsupportedOperationException.class, works, () -> works.depth(1, 0, 0));
        Build.fill(works, 1);
        check.due("over the whole paper", 14, () -> works.depth(1, 0, 63));
        int ring = Build.sheet(works, Build.squaresOf("###,#.#,###", 0, 0));
        check.due("round a ring", 4, () -> works.depth(ring, 0, 18));
        works.set(ring, 2, false);
        check.due("the other way round", 4, () -> works.depth(ring, 0, 18));
        works.set(ring, 8, false);
        check.refused("a ring that fell apart", UnsupportedOperationException.class, works,
                () -> works.depth(ring, 0, 18));
    }

    private static void fold(Check check) {
        check.promise(22);
        CubefoldWorks works = Build.works();
        check.refused("no sheet", IndexOutOfBoundsException.class, works, () -> works.fold(0, 64, -1));
        Build.sheet(works, CROSS);
        int[] fromMiddle = {25, 1, 8, 10, 17};
        int[] fromEnd = {1, 8, 10, 9, 17};
        for (int index = 0; index < 5; index++) {
            int at = index;
            check.due("fold from 9", fromMiddle[at], () -> works.fold(0, 9, at));
            check.due("fold from 25", fromEnd[at], () -> works.fold(0, 25, at));
        }
        for (int wrong : new int[] {-1, 5, 6, 64, Integer.MIN_VALUE, Integer.MAX_VALUE}) {
            check.refused("no fold " + wrong, NoSuchElementException.class, works, () -> works.fold(0, 9, wrong));
        }
        for (int wrong : WRONG) {
            check.refused("no such sheet", IndexOutOfBoundsException.class, works, () -> works.fold(wrong, 64, 0));
            check.refused("no such base", IllegalArgumentException.class, works, () -> works.fold(0, wrong, -1));
        }
        check.refused("a base it lacks", NoSuchElementException.class, works, () -> works.fold(0, 0, 0));
        works.set(0, 63, true);
        check.refused("not one", UnsupportedOperationException.class, works, () -> works.fold(0, 9, 0));
        check.refused("not one, no base, no fold", UnsupportedOperationException.class, works,
                () -> works.fold(0, 0, 99));
        check.refused("not one, out of range", IllegalArgumentException.class, works, () -> works.fold(0, 64, 0));
        Build.sheet(works, 42);
        check.refused("one square is not folded", NoSuchElementException.class, works, () -> works.fold(1, 42, 0));
        works.addSheet();
        check.refused("without squares", UnsupportedOperationException.class, works, () -> works.fold(2, 0, 0));
    }

    private static void longestPath(Check check) {
        CubefoldWorks works = Build.works();
        works.addSheet();
        for (int row = 0; row < 8; row++) {
            for (int column = 0; column < 8; column++) {
                boolean is = row % 2 == 0 || column == (row % 4 == 1 ? 7 : 0);
                works.set(0, column + 8 * row, is);
            }
        }
        check.promise(21);
        check.due("the end of the snake", 35, () -> works.depth(0, 0, 56));
        check.promise(22);
        check.due("the end is first", 56, () -> works.fold(0, 0, 0));
        check.due("the beginning is last", 1, () -> works.fold(0, 0, 34));
        check.due("there is no more", NoSuchElementException.class, () -> works.fold(0, 0, 35));
        Build.fill(works, 0);
        check.due("the far corner", 63, () -> works.fold(0, 0, 0));
        check.due("of like depths the lower", 55, () -> works.fold(0, 0, 1));
        check.due("then the higher", 62, () -> works.fold(0, 0, 2));
        check.due("the last fold", 8, () -> works.fold(0, 0, 62));
        Build.clear(works, 0);
        for (int square : new int[] {0, 1, 2, 9}) {
            works.set(0, square, true);
        }
        check.due("the first square is the lowest", 0, () -> works.fold(0, 1, 0));
        check.due("then comes the second", 2, () -> works.fold(0, 1, 1));
        check.due("then the one below", 9, () -> works.fold(0, 1, 2));
    }
}
