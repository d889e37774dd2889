/** The sentences of promises 11 to 17, and of the Terms on sheets, that name a boundary. */
final class SheetBounds {

    private static final String NO_SHEET = "IndexOutOfBoundsException if there is no such sheet";
    private static final String NO_SHEET_FOR_EITHER = "IndexOutOfBoundsException if there is no such sheet, for either";
    private static final String FIRST = "the exception that is documented first";

    private final Check check;

    interface OnSheet {
        Object on(CubefoldWorks works, int sheet);
    }

    private SheetBounds(Check check) {
        this.check = check;
    }

    static void run(Check check) {
        SheetBounds bounds = new SheetBounds(check);
        bounds.paper();
        bounds.oneAndItsEdge();
        bounds.addSheet();
        bounds.set();
        bounds.squaresAndEdge();
        bounds.isOne();
        bounds.areLike();
        bounds.moved();
        bounds.ways();
    }

    static CubefoldWorks of(int... squares) {
        CubefoldWorks works = Build.works();
        Build.sheet(works, squares);
        return works;
    }

    /** No sheet has a number but those of sheets that were added: of none, of one, of eight. */
    static void noSuchSheet(Check check, OnSheet call) {
        for (int none : new int[] {0, 1, -1, 7, Integer.MIN_VALUE, Integer.MAX_VALUE}) {
            check.refuses("of no sheets " + none, Check.INDEX, Build::works, works -> call.on(works, none));
        }
        for (int none : Build.noneOf(1)) {
            check.refuses("of one sheet " + none, Check.INDEX, Build::one, works -> call.on(works, none));
        }
        for (int none : Build.noneOf(8)) {
            check.refuses("of eight sheets " + none, Check.INDEX, Build::full, works -> call.on(works, none));
        }
    }

    private void noSuchSheet(OnSheet call) {
        noSuchSheet(check, call);
    }

    private void paper() {
        check.sentence(0, "each some squares of a paper of 8 by 8, numbered from 0 to 63 by x and 8 y");
        check.due("a row from 0 to 7", 18, () -> of(0, 1, 2, 3, 4, 5, 6, 7).edge(0));
        check.due("a row from 56 to 63", true, () -> of(56, 57, 58, 59, 60, 61, 62, 63).isOne(0));
        check.due("a column from 7 to 63", true, () -> of(7, 15, 23, 31, 39, 47, 55, 63).isOne(0));
        check.sentence(0, "Squares are next to each other if one of x and y differs by 1, and the other one does not");
        for (int step : new int[] {1, -1, 8, -8}) {
            check.due("one differs by 1: " + step, true, () -> of(27, 27 + step).isOne(0));
        }
        for (int step : new int[] {2, -2, 16, -16, 9, -9, 7, -7, 10, -6, 18}) {
            check.due("more differs: " + step, false, () -> of(27, 27 + step).isOne(0));
        }
        for (int[] rim : new int[][] {{7, 8}, {15, 16}, {55, 56}, {0, 7}, {0, 56}, {7, 63}, {56, 63}, {0, 63}}) {
            check.due("ends of the paper " + rim[0] + ", " + rim[1], false, () -> of(rim).isOne(0));
            check.due("they share no side", 8, () -> of(rim).edge(0));
        }
    }

    private void oneAndItsEdge() {
        check.sentence(0, "A sheet is one if it has squares, and all are joined so");
        check.due("no squares", false, () -> of().isOne(0));
        check.due("one square", true, () -> of(36).isOne(0));
        check.due("all squares", true, () -> Build.filled(of(), 0).isOne(0));
        check.due("two apart", false, () -> of(0, 2).isOne(0));
        check.due("two pieces of two", false, () -> of(0, 1, 62, 63).isOne(0));
        check.due("over a corner alone", false, () -> of(0, 9).isOne(0));
        check.due("a ring and a square within", false, () -> of(0, 1, 2, 3, 4, 8, 12, 16, 18, 20, 24, 28, 32, 33, 34,
                35, 36).isOne(0));
        check.due("a ring that is joined to the square within", true, () -> of(0, 1, 2, 3, 4, 8, 12, 16, 17, 18, 20,
                24, 28, 32, 33, 34, 35, 36).isOne(0));
        check.sentence(0, "Its edge are the sides of squares at which no square of it lies");
        check.due("the rim of the paper is no square", 4, () -> of(0).edge(0));
        check.due("the rim of the paper is no square", 4, () -> of(63).edge(0));
        check.due("a square of another sheet beside it", 4, () -> {
            CubefoldWorks works = of(27);
            Build.sheet(works, 28);
            return works.edge(0);
        });
        check.due("the sides of a hole", 16, () -> of(0, 1, 2, 8, 10, 16, 17, 18).edge(0));
        check.due("two over a corner", 8, () -> of(0, 9).edge(0));
    }

    private void addSheet() {
        check.sentence(0, "At most 8 sheets are numbered from 0");
        CubefoldWorks eight = Build.works();
        for (int number = 0; number < 8; number++) {
            int due = number;
            check.due("sheet " + due, due, eight::addSheet);
        }
        check.due("the ninth", Check.STATE, eight::addSheet);
        check.sentence(11, "Adds a sheet without squares");
        check.due("the first", 0, () -> Build.sheet(Build.works()) + of().squares(0));
        check.due("the last", 0, () -> eight.squares(7));
        check.sentence(11, "IllegalStateException if there are 8");
        check.refuses("a ninth of the full works", Check.STATE, Build::full, CubefoldWorks::addSheet);
        check.refuses("a ninth without squares", Check.STATE, () -> {
            CubefoldWorks works = Build.works();
            for (int number = 0; number < 8; number++) {
                works.addSheet();
            }
            return works;
        }, CubefoldWorks::addSheet);
    }

    private void set() {
        check.sentence(12, "square: 0 to 63");
        for (int place = 0; place < 64; place++) {
            int square = place;
            check.due("set " + square, "false true", () -> {
                CubefoldWorks works = of();
                return works.set(0, square, true) + " " + works.set(0, square, false);
            });
            check.due("it has square " + square, 31L * (31 * (31 * 7 + square)) + 6, () -> of(square).checksum());
        }
        check.sentence(12, "is: whether the sheet has the square");
        check.due("it had not, and has not", "false false 0", () -> setTwice(of(), false));
        check.due("it had not, and has", "false true 1", () -> setTwice(of(), true));
        check.due("it had, and has", "true true 1", () -> setTwice(of(40), true));
        check.due("it had, and has not", "true false 0", () -> setTwice(of(40), false));
        check.sentence(12, NO_SHEET);
        check.due("the first of eight", false, () -> Build.full().set(0, 0, true));
        check.due("the last of eight", true, () -> Build.full().set(7, 8, true));
        noSuchSheet((works, sheet) -> works.set(sheet, 0, true));
        noSuchSheet((works, sheet) -> works.set(sheet, 1, false));
        check.sentence(12, "IllegalArgumentException if a number is out of range");
        for (int wrong : Build.NO_PLACES) {
            check.refuses("set true", Check.ARGUMENT, Build::one, works -> works.set(0, wrong, true));
            check.refuses("set false", Check.ARGUMENT, Build::full, works -> works.set(3, wrong, false));
        }
        check.sentence(12, FIRST);
        for (int wrong : new int[] {-1, 64}) {
            check.refuses("no sheet, no square", Check.INDEX, Build::full, works -> works.set(8, wrong, true));
            check.refuses("no sheet, no square", Check.INDEX, Build::works, works -> works.set(-1, wrong, false));
        }
    }

    private static String setTwice(CubefoldWorks works, boolean is) {
        return works.set(0, 40, is) + " " + works.set(0, 40, is) + " " + works.squares(0);
    }

    private void squaresAndEdge() {
        check.sentence(13, NO_SHEET);
        check.due("the first of eight", 0, () -> Build.full().squares(0));
        check.due("the last of eight", 3, () -> Build.full().squares(7));
        noSuchSheet(CubefoldWorks::squares);
        check.sentence(13, "squares: of an empty and of a full sheet");
        check.due("empty", 0, () -> of().squares(0));
        check.due("full", 64, () -> Build.filled(of(), 0).squares(0));
        check.due("full but for one", 63, () -> {
            CubefoldWorks works = Build.filled(of(), 0);
            works.set(0, 63, false);
            return works.squares(0);
        });
        check.sentence(14, NO_SHEET);
        check.due("the first of eight", 0, () -> Build.full().edge(0));
        check.due("the last of eight", 8, () -> Build.full().edge(7));
        noSuchSheet(CubefoldWorks::edge);
        check.sentence(14, "edge: of an empty and of a full sheet, and the greatest");
        check.due("empty", 0, () -> of().edge(0));
        check.due("full", 32, () -> Build.filled(of(), 0).edge(0));
        check.due("every other square", 128, () -> everyOther().edge(0));
    }

    /** A sheet with 32 squares, none next to another one: it has the longest edge. */
    static CubefoldWorks everyOther() {
        CubefoldWorks works = of();
        for (int square = 0; square < 64; square++) {
            works.set(0, square, (square % 8 + square / 8) % 2 == 0);
        }
        return works;
    }

    private void isOne() {
        check.sentence(15, NO_SHEET);
        check.due("the first of eight", false, () -> Build.full().isOne(0));
        check.due("the last of eight", true, () -> Build.full().isOne(7));
        noSuchSheet(CubefoldWorks::isOne);
        check.sentence(15, "isOne: of an empty and of a full sheet");
        check.due("empty", false, () -> of().isOne(0));
        check.due("full", true, () -> Build.filled(of(), 0).isOne(0));
        check.due("emptied", false, () -> {
            CubefoldWorks works = of(5);
            works.set(0, 5, false);
            return works.isOne(0);
        });
    }

    private void areLike() {
        check.sentence(16, NO_SHEET_FOR_EITHER);
        check.due("the first of eight and itself", true, () -> Build.full().areLike(0, 0));
        check.due("the first and the last of eight", false, () -> Build.full().areLike(0, 7));
        check.due("the last of eight and itself", true, () -> Build.full().areLike(7, 7));
        noSuchSheet((works, sheet) -> works.areLike(sheet, 0));
        noSuchSheet((works, sheet) -> works.areLike(0, sheet));
        noSuchSheet((works, sheet) -> works.areLike(sheet, sheet));
        check.sentence(16, "other: the other sheet, or the same");
        check.due("the same, with squares", true, () -> of(0, 1, 8, 63).areLike(0, 0));
        check.due("the same, without", true, () -> of().areLike(0, 0));
        check.sentence(16, "true if so, also if neither has a square");
        check.due("neither has a square", true, () -> like(new int[0], new int[0]));
        check.due("the first has one", false, () -> like(new int[] {0}, new int[0]));
        check.due("the second has one", false, () -> like(new int[0], new int[] {63}));
        check.due("each has one", true, () -> like(new int[] {0}, new int[] {63}));
        check.sentence(0, "Sheets are alike if one becomes the other one by quarter turns, turned over, and moved");
        check.due("moved from rim to rim", true, () -> like(new int[] {0, 1, 2, 8}, new int[] {53, 54, 55, 61}));
        check.due("a quarter", true, () -> like(new int[] {0, 1, 2, 8}, new int[] {7, 15, 23, 6}));
        check.due("a half", true, () -> like(new int[] {0, 1, 2, 8}, new int[] {63, 62, 61, 55}));
        check.due("three quarters", true, () -> like(new int[] {0, 1, 2, 8}, new int[] {56, 48, 40, 57}));
        check.due("turned over", true, () -> like(new int[] {0, 1, 2, 8}, new int[] {7, 6, 5, 15}));
        check.due("turned over, and a quarter", true, () -> like(new int[] {0, 1, 2, 8}, new int[] {63, 55, 47, 62}));
        check.due("pieces that are not one", true, () -> like(new int[] {0, 2, 17}, new int[] {63, 47, 53}));
        check.due("pieces at another distance", false, () -> like(new int[] {0, 2}, new int[] {0, 3}));
        check.due("with a square more", false, () -> like(new int[] {0, 1, 2}, new int[] {0, 1}));
        check.due("rows that go over the rim", false, () -> like(new int[] {6, 7}, new int[] {7, 8}));
        check.due("the same full sheets", true, () -> Build.filled(Build.full(), 7).areLike(7, 3));
    }

    /** Rows and columns of squares, of all sizes at all places. */
    private void moved() {
        check.sentence(0, "Sheets are alike if one becomes the other one by quarter turns, turned over, and moved");
        for (int size = 0; size < 64; size++) {
            int wide = size % 8 + 1;
            int high = size / 8 + 1;
            long first = block(0, wide, high);
            for (int place = 0; place < 64; place++) {
                if (place % 8 + wide <= 8 && place / 8 + high <= 8 && wide * high <= 16) {
                    CubefoldWorks works = of();
                    works.addSheet();
                    set(works, 0, first);
                    set(works, 1, block(place, wide, high));
                    check.due(wide + " by " + high + " at " + place, true, () -> works.areLike(0, 1));
                    works.set(1, place, false);
                    check.due("less its corner", false, () -> works.areLike(0, 1));
                }
            }
        }
    }

    private static long block(int place, int wide, int high) {
        long row = (1L << wide) - 1 << place;
        long squares = 0;
        for (int many = 0; many < high; many++) {
            squares |= row << 8 * many;
        }
        return squares;
    }

    private static void set(CubefoldWorks works, int sheet, long squares) {
        for (int square = 0; square < 64; square++) {
            if ((squares >> square & 1) != 0) {
                works.set(sheet, square, true);
            }
        }
    }

    private static boolean like(int[] squares, int[] others) {
        CubefoldWorks works = of(squares);
        Build.sheet(works, others);
        return works.areLike(0, 1);
    }

    private void ways() {
        check.sentence(17, NO_SHEET);
        check.due("the first of eight", 1, () -> Build.full().ways(0));
        check.due("the last of eight", 4, () -> Build.full().ways(7));
        noSuchSheet(CubefoldWorks::ways);
        check.sentence(17, "Returns how many, 1 without squares");
        check.due("without squares", 1, () -> of().ways(0));
        check.due("one square", 1, () -> of(63).ways(0));
        check.due("all squares", 1, () -> Build.filled(of(), 0).ways(0));
        check.due("the least number above 1", 2, () -> of(0, 1).ways(0));
        check.due("moves are no way", 2, () -> of(62, 63).ways(0));
        check.due("a quarter leaves none alike", 4, () -> of(0, 1, 2, 9).ways(0));
        check.due("the greatest number", 8, () -> of(0, 1, 2, 8).ways(0));
        check.due("the greatest, in the last corner", 8, () -> of(63, 62, 61, 55).ways(0));
        check.due("not one", 8, () -> of(0, 2, 8).ways(0));
    }
}
