/** The sentences of promises 18 to 22, and of the Terms on cubes, that name a boundary. */
final class FoldingBounds {

    private static final String NO_SHEET = "IndexOutOfBoundsException if there is no such sheet";
    private static final String OUT_OF_RANGE = "IllegalArgumentException if a number is out of range";
    private static final String NOT_ONE = "UnsupportedOperationException if the sheet is not one";
    private static final String FIRST = "the exception that is documented first";

    private final Check check;

    private FoldingBounds(Check check) {
        this.check = check;
    }

    static void run(Check check) {
        FoldingBounds bounds = new FoldingBounds(check);
        bounds.cubes();
        bounds.folds();
        bounds.opposite();
        bounds.oppositeRefused();
        bounds.cubeAdds();
        bounds.depths();
        bounds.depth();
        bounds.order();
        bounds.fold();
        bounds.foldRefused();
    }

    private static CubefoldWorks of(int... squares) {
        return SheetBounds.of(squares);
    }

    private static CubefoldWorks drawn(String rows, int x, int y) {
        return of(Build.squaresOf(rows, x, y));
    }

    private void cubes() {
        check.sentence(0, "The sheet folds to a cube if it is one, has 6 squares, lies in one way, all on other faces");
        check.due("a cross", true, () -> of(Build.CROSS).folds(0));
        check.due("not one, with six squares", false, () -> of(1, 8, 9, 10, 17, 33).folds(0));
        check.due("not one but over a corner", false, () -> of(1, 8, 9, 10, 17, 26).folds(0));
        check.due("not one but over the rim of the paper", false, () -> of(7, 8, 9, 10, 11, 17).folds(0));
        check.due("five squares", false, () -> of(1, 8, 9, 10, 17).folds(0));
        check.due("seven squares", false, () -> of(1, 8, 9, 10, 17, 25, 33).folds(0));
        check.due("seven, of which six would fold", false, () -> of(1, 8, 9, 10, 11, 17, 25).folds(0));
        check.due("in more ways than one", false, () -> drawn("##,##,.#,.#", 0, 0).folds(0));
        check.due("in more ways, all faces", false, () -> drawn("####,##", 2, 2).folds(0));
        check.due("two squares on one face", false, () -> drawn("#####,..#", 0, 0).folds(0));
        check.due("six on four faces", false, () -> drawn("######", 0, 0).folds(0));
        check.due("two flaps on one side", false, () -> drawn("#..#,####", 0, 0).folds(0));
        check.due("a U", false, () -> drawn("#.#,#.#,##.", 0, 0).folds(0));
        check.sentence(0, "A cube is rolled over a sheet from its square with the lowest number");
        check.due("the lowest is 0", true, () -> drawn("##..,.##.,..##", 0, 0).folds(0));
        check.due("the highest is 63", true, () -> drawn("##..,.##.,..##", 4, 5).folds(0));
        check.due("the lowest is no corner of it", true, () -> drawn("..##,###.,#...", 4, 5).folds(0));
        check.due("the lowest is in the last column", true, () -> drawn("...#,####,#...", 4, 4).folds(0));
    }

    private void folds() {
        check.sentence(18, NO_SHEET);
        check.due("the first of eight", false, () -> Build.full().folds(0));
        check.due("the third of eight", true, () -> Build.full().folds(2));
        check.due("the last of eight", false, () -> Build.full().folds(7));
        SheetBounds.noSuchSheet(check, CubefoldWorks::folds);
        check.sentence(18, "folds: of an empty and of a full sheet");
        check.due("empty", false, () -> of().folds(0));
        check.due("full", false, () -> Build.filled(of(), 0).folds(0));
        check.due("one square", false, () -> of(0).folds(0));
    }

    private void opposite() {
        check.sentence(0, "Opposite are two squares if the cube lies on them with opposite faces");
        int[] pairs = {0, 10, 1, 18, 9, 19};
        CubefoldWorks first = drawn("##..,.##.,..##", 0, 0);
        CubefoldWorks last = drawn("##..,.##.,..##", 4, 5);
        for (int index = 0; index < pairs.length; index += 2) {
            int one = pairs[index];
            int other = pairs[index + 1];
            check.due("opposite to " + one, other, () -> first.opposite(0, one));
            check.due("opposite to " + other, one, () -> first.opposite(0, other));
            check.due("opposite to " + (one + 44), other + 44, () -> last.opposite(0, one + 44));
            check.due("opposite to " + (other + 44), one + 44, () -> last.opposite(0, other + 44));
        }
        check.sentence(19, "square: 0 to 63");
        check.due("the first square", 10, () -> first.opposite(0, 0));
        check.due("the last square", 53, () -> last.opposite(0, 63));
    }

    private void oppositeRefused() {
        check.sentence(19, NO_SHEET);
        check.due("the third of eight", 25, () -> Build.full().opposite(2, 9));
        check.due("the last of eight", Check.UNSUPPORTED, () -> Build.full().opposite(7, 0));
        SheetBounds.noSuchSheet(check, (works, sheet) -> works.opposite(sheet, 9));
        check.sentence(19, OUT_OF_RANGE);
        for (int wrong : Build.NO_PLACES) {
            check.refuses("opposite(0, " + wrong + ")", Check.ARGUMENT, Build::one, works -> works.opposite(0, wrong));
        }
        check.sentence(19, "UnsupportedOperationException if it does not fold to a cube");
        check.refuses("empty", Check.UNSUPPORTED, Build::full, works -> works.opposite(Build.EMPTY_SHEET, 0));
        check.refuses("full", Check.UNSUPPORTED, Build::full, works -> works.opposite(Build.FULL_SHEET, 0));
        check.refuses("five", Check.UNSUPPORTED, () -> of(1, 8, 9, 10, 17), works -> works.opposite(0, 9));
        check.refuses("seven", Check.UNSUPPORTED, () -> of(1, 8, 9, 10, 17, 25, 33), works -> works.opposite(0, 9));
        check.refuses("six in a row", Check.UNSUPPORTED, () -> of(1, 2, 3, 4, 5, 6), works -> works.opposite(0, 1));
        check.sentence(19, "NoSuchElementException if it does not have the square");
        for (int square : new int[] {0, 2, 18, 63}) {
            check.refuses("no square " + square, Check.ELEMENT, Build::one, works -> works.opposite(0, square));
        }
        check.sentence(19, FIRST);
        for (int wrong : new int[] {-1, 64}) {
            check.refuses("no sheet, no square", Check.INDEX, Build::full, works -> works.opposite(8, wrong));
            check.refuses("out of range, not folding", Check.ARGUMENT, Build::full, works -> works.opposite(0, wrong));
        }
        check.refuses("not folding, no square", Check.UNSUPPORTED, () -> of(5), works -> works.opposite(0, 6));
    }

    private void cubeAdds() {
        check.sentence(20, NO_SHEET);
        check.due("the first of eight", 0, () -> Build.full().cubeAdds(0));
        check.due("the last of eight", 0, () -> Build.full().cubeAdds(7));
        SheetBounds.noSuchSheet(check, CubefoldWorks::cubeAdds);
        check.sentence(20, "to how many squares of the paper one could be added");
        check.due("to no squares", 0, () -> of().cubeAdds(0));
        check.due("to all squares", 0, () -> Build.filled(of(), 0).cubeAdds(0));
        check.due("to four", 0, () -> of(1, 8, 9, 10).cubeAdds(0));
        check.due("to five", 4, () -> of(18, 25, 26, 27, 34).cubeAdds(0));
        check.due("to five at two rims of the paper", 2, () -> of(1, 8, 9, 10, 17).cubeAdds(0));
        check.due("to five at the other rims", 2, () -> of(46, 53, 54, 55, 62).cubeAdds(0));
        check.due("to six that fold", 0, () -> of(Build.CROSS).cubeAdds(0));
        check.due("to six, of which five could", 0, () -> of(18, 25, 26, 27, 34, 63).cubeAdds(0));
        check.due("to the square 0 too", 4, () -> of(1, 9, 10, 18, 19).cubeAdds(0));
        check.due("not beside the first column", 2, () -> of(0, 8, 9, 17, 18).cubeAdds(0));
        check.due("to the square 63 too", 4, () -> of(62, 54, 53, 45, 44).cubeAdds(0));
        check.due("not beside the last column", 2, () -> of(63, 55, 54, 46, 45).cubeAdds(0));
        check.due("a row of five", 0, () -> of(0, 1, 2, 3, 4).cubeAdds(0));
    }

    private void depths() {
        check.sentence(0, "The depth of a square is over how many others at least one comes to it, the base aside");
        check.due("the base", 0, () -> of(9).depth(0, 9, 9));
        check.due("next to the base", 1, () -> of(9, 10).depth(0, 9, 10));
        check.due("two off", 2, () -> of(8, 9, 10).depth(0, 8, 10));
        check.due("round a corner", 2, () -> of(0, 1, 9).depth(0, 0, 9));
        check.due("at least: not the long way round", 1, () -> of(0, 1, 2, 8, 10, 16, 17, 18).depth(0, 0, 8));
        check.due("half round a ring", 4, () -> of(0, 1, 2, 8, 10, 16, 17, 18).depth(0, 8, 10));
        int[] ring = {1, 2, 8, 10, 16, 17, 18};
        check.due("all round an open ring", 6, () -> of(ring).depth(0, 1, 8));
        check.due("the farthest of a full sheet", 14, () -> Build.filled(of(), 0).depth(0, 63, 0));
        int[] spiral = Build.squaresOf("########,.......#,######.#,#....#.#,#.#..#.#,#.####.#,#......#,########", 0, 0);
        check.due("from the end of a spiral to the other", 38, () -> of(spiral).depth(0, 0, 34));
        check.due("and back", 38, () -> of(spiral).depth(0, 34, 0));
    }

    private void depth() {
        check.sentence(21, NO_SHEET);
        check.due("the third of eight", 3, () -> Build.full().depth(2, 1, 25));
        check.due("the last of eight", 2, () -> Build.full().depth(7, 1, 8));
        SheetBounds.noSuchSheet(check, (works, sheet) -> works.depth(sheet, 9, 10));
        check.sentence(21, "square: 0 to 63");
        check.due("to the first square", 1, () -> of(0, 1).depth(0, 1, 0));
        check.due("to the last square", 1, () -> of(62, 63).depth(0, 62, 63));
        check.sentence(21, "base: a square of it");
        check.due("from the first square", 1, () -> of(0, 1).depth(0, 0, 1));
        check.due("from the last square", 1, () -> of(62, 63).depth(0, 63, 62));
        check.sentence(21, OUT_OF_RANGE);
        for (int wrong : Build.NO_PLACES) {
            check.refuses("square " + wrong, Check.ARGUMENT, Build::one, works -> works.depth(0, 9, wrong));
            check.refuses("base " + wrong, Check.ARGUMENT, Build::one, works -> works.depth(0, wrong, 9));
        }
        check.sentence(21, NOT_ONE);
        check.refuses("empty", Check.UNSUPPORTED, Build::full, works -> works.depth(Build.EMPTY_SHEET, 0, 0));
        check.refuses("apart", Check.UNSUPPORTED, Build::full, works -> works.depth(Build.APART_SHEET, 0, 63));
        check.refuses("apart, the base itself", Check.UNSUPPORTED, Build::full,
                works -> works.depth(Build.APART_SHEET, 63, 63));
        check.refuses("apart, in the piece of the base", Check.UNSUPPORTED, () -> of(0, 1, 63),
                works -> works.depth(0, 0, 1));
        check.sentence(21, "NoSuchElementException if it does not have one of both squares");
        check.refuses("no base", Check.ELEMENT, Build::one, works -> works.depth(0, 0, 9));
        check.refuses("no square", Check.ELEMENT, Build::one, works -> works.depth(0, 9, 63));
        check.refuses("neither", Check.ELEMENT, Build::one, works -> works.depth(0, 0, 63));
        check.refuses("neither, and the same", Check.ELEMENT, Build::one, works -> works.depth(0, 63, 63));
        check.sentence(21, FIRST);
        for (int wrong : new int[] {-1, 64}) {
            check.refuses("no sheet, no base", Check.INDEX, Build::full, works -> works.depth(8, wrong, 0));
            check.refuses("no sheet, no square", Check.INDEX, Build::full, works -> works.depth(-1, 0, wrong));
            check.refuses("out of range, not one", Check.ARGUMENT, Build::full, works -> works.depth(4, 0, wrong));
            check.refuses("out of range, not one", Check.ARGUMENT, Build::full, works -> works.depth(4, wrong, 0));
            check.refuses("square out of range, no base", Check.ARGUMENT, Build::one,
                    works -> works.depth(0, 0, wrong));
            check.refuses("base out of range, no square", Check.ARGUMENT, Build::one,
                    works -> works.depth(0, wrong, 0));
        }
        check.refuses("not one, no base", Check.UNSUPPORTED, Build::full, works -> works.depth(4, 1, 0));
        check.refuses("not one, no square", Check.UNSUPPORTED, Build::full, works -> works.depth(4, 0, 1));
    }

    private void order() {
        check.sentence(0, "Squares are folded by depths, the greatest first, of like ones the lower, the base not");
        int[] fromMiddle = {25, 1, 8, 10, 17};
        int[] fromEnd = {1, 8, 10, 9, 17};
        for (int index = 0; index < 5; index++) {
            int at = index;
            check.due("from the middle", fromMiddle[at], () -> of(Build.CROSS).fold(0, 9, at));
            check.due("from the end", fromEnd[at], () -> of(Build.CROSS).fold(0, 25, at));
        }
        check.due("all of like depths: the lower first", "0 2 9", () -> {
            CubefoldWorks works = of(0, 1, 2, 9);
            return works.fold(0, 1, 0) + " " + works.fold(0, 1, 1) + " " + works.fold(0, 1, 2);
        });
        check.due("the greatest depth has the lowest number", "0 1", () -> {
            CubefoldWorks works = of(0, 1, 2);
            return works.fold(0, 2, 0) + " " + works.fold(0, 2, 1);
        });
        check.due("the greatest depth has the greatest number", "63 62", () -> {
            CubefoldWorks works = of(61, 62, 63);
            return works.fold(0, 61, 0) + " " + works.fold(0, 61, 1);
        });
    }

    private void fold() {
        check.sentence(22, NO_SHEET);
        check.due("the third of eight", 25, () -> Build.full().fold(2, 9, 0));
        check.due("the last of eight", 8, () -> Build.full().fold(7, 0, 1));
        SheetBounds.noSuchSheet(check, (works, sheet) -> works.fold(sheet, 9, 0));
        check.sentence(22, "base: a square of it");
        check.due("the first square", 1, () -> of(0, 1).fold(0, 0, 0));
        check.due("the last square", 62, () -> of(62, 63).fold(0, 63, 0));
        check.sentence(22, "index: from 0");
        check.due("the first fold", 25, () -> of(Build.CROSS).fold(0, 9, 0));
        check.due("the last fold", 17, () -> of(Build.CROSS).fold(0, 9, 4));
        check.due("the only fold", 1, () -> of(0, 1).fold(0, 0, 0));
        check.due("the first of 63", 63, () -> Build.filled(of(), 0).fold(0, 0, 0));
        check.due("the last of 63", 8, () -> Build.filled(of(), 0).fold(0, 0, 62));
    }

    private void foldRefused() {
        check.sentence(22, "IllegalArgumentException if the base is not 0 to 63");
        for (int wrong : Build.NO_PLACES) {
            check.refuses("base " + wrong, Check.ARGUMENT, Build::one, works -> works.fold(0, wrong, 0));
        }
        check.sentence(22, NOT_ONE);
        check.refuses("empty", Check.UNSUPPORTED, Build::full, works -> works.fold(Build.EMPTY_SHEET, 0, 0));
        check.refuses("apart", Check.UNSUPPORTED, Build::full, works -> works.fold(Build.APART_SHEET, 0, 0));
        check.refuses("apart, in the piece of the base", Check.UNSUPPORTED, () -> of(0, 1, 63),
                works -> works.fold(0, 0, 0));
        check.sentence(22, "NoSuchElementException if it does not have the base, or there is no such fold");
        check.refuses("no base", Check.ELEMENT, Build::one, works -> works.fold(0, 0, 0));
        check.refuses("no base", Check.ELEMENT, Build::one, works -> works.fold(0, 63, 0));
        for (int wrong : new int[] {-1, 5, 6, 63, 64, 256, Integer.MIN_VALUE, Integer.MAX_VALUE}) {
            check.refuses("no fold " + wrong, Check.ELEMENT, Build::one, works -> works.fold(0, 9, wrong));
        }
        for (int wrong : new int[] {-1, 0, 1, Integer.MIN_VALUE, Integer.MAX_VALUE}) {
            check.refuses("one square, no fold " + wrong, Check.ELEMENT, () -> of(42),
                    works -> works.fold(0, 42, wrong));
        }
        check.refuses("63 folds, not 64", Check.ELEMENT, Build::full, works -> works.fold(Build.FULL_SHEET, 0, 63));
        check.refuses("63 folds, none below the first", Check.ELEMENT, Build::full,
                works -> works.fold(Build.FULL_SHEET, 63, -1));
        check.sentence(22, FIRST);
        for (int wrong : new int[] {-1, 64}) {
            check.refuses("no sheet, no base, no fold", Check.INDEX, Build::full, works -> works.fold(8, wrong, -1));
            check.refuses("out of range, not one", Check.ARGUMENT, Build::full, works -> works.fold(4, wrong, 0));
            check.refuses("out of range, no fold", Check.ARGUMENT, Build::one, works -> works.fold(0, wrong, -1));
            check.refuses("no sheet, no fold", Check.INDEX, Build::full, works -> works.fold(wrong, 0, 64));
        }
        check.refuses("not one, no base", Check.UNSUPPORTED, Build::full, works -> works.fold(4, 1, 0));
        check.refuses("not one, no fold", Check.UNSUPPORTED, Build::full, works -> works.fold(4, 0, -1));
        check.refuses("empty, no fold", Check.UNSUPPORTED, Build::full, works -> works.fold(0, 0, 64));
    }
}
