/** The sentences of promises 23 to 29, and of the Terms on boards and knives, that name a boundary. */
final class BoardBounds {

    private static final String NO_SHEET_OR_BOARD = "IndexOutOfBoundsException if there is no such sheet or board";
    private static final String NO_BOARD = "IndexOutOfBoundsException if there is no such board";
    private static final String FIRST = "the exception that is documented first";

    /** A hook of four squares at the turns 0 to 7. */
    private static final String[] HOOKS = {"###,#", "##,.#,.#", "..#,###", "#,#,##", "###,..#", ".#,.#,##", "#,###",
        "##,#,#"};

    private final Check check;

    private interface OnBoard {
        Object on(CubefoldWorks works, int board);
    }

    private BoardBounds(Check check) {
        this.check = check;
    }

    static void run(Check check) {
        BoardBounds bounds = new BoardBounds(check);
        bounds.addBoard();
        bounds.turns();
        bounds.firstOfMany();
        bounds.apart();
        bounds.fits();
        bounds.lay();
        bounds.free();
        bounds.isFree();
        bounds.knife();
        bounds.cut();
        bounds.sharpen();
    }

    /** The sheet 0 has the squares, and but these squares of the board 0 are free. */
    private static CubefoldWorks of(int[] squares, int... free) {
        CubefoldWorks works = SheetBounds.of(squares);
        works.addBoard();
        int rest = works.addSheet();
        Build.fill(works, rest);
        for (int square : free) {
            works.set(rest, square, false);
        }
        works.lay(rest, 0);
        for (int square : free) {
            if (!works.isFree(0, square)) {
                throw new IllegalStateException("the rest lies elsewhere, as a whole rim was to be free");
            }
        }
        return works;
    }

    private static CubefoldWorks withFreeBoard(int... squares) {
        CubefoldWorks works = SheetBounds.of(squares);
        works.addBoard();
        return works;
    }

    /** No board has a number but those of boards that were added: of none, of one, of four. */
    private void noSuchBoard(OnBoard call) {
        for (int none : new int[] {0, 1, -1, 3, Integer.MIN_VALUE, Integer.MAX_VALUE}) {
            check.refuses("of no boards " + none, Check.INDEX, () -> SheetBounds.of(5), works -> call.on(works, none));
        }
        for (int none : Build.noneOf(1)) {
            check.refuses("of one board " + none, Check.INDEX, Build::one, works -> call.on(works, none));
        }
        for (int none : Build.noneOf(4)) {
            check.refuses("of four boards " + none, Check.INDEX, Build::full, works -> call.on(works, none));
        }
    }

    private void addBoard() {
        check.sentence(0, "At most 4 boards are numbered from 0, each of 8 by 8 squares, all free at first");
        CubefoldWorks four = Build.works();
        for (int number = 0; number < 4; number++) {
            int due = number;
            check.due("board " + due, due, four::addBoard);
            check.due("all are free", 64, () -> four.free(due));
            for (int square = 0; square < 64; square++) {
                int place = square;
                check.due("free at first: " + place, true, () -> four.isFree(due, place));
            }
        }
        check.due("the fifth", Check.STATE, four::addBoard);
        check.sentence(23, "IllegalStateException if there are 4");
        check.refuses("a fifth of the full works", Check.STATE, Build::full, CubefoldWorks::addBoard);
        check.refuses("a fifth of free ones", Check.STATE, () -> {
            CubefoldWorks works = Build.works();
            for (int number = 0; number < 4; number++) {
                works.addBoard();
            }
            return works;
        }, CubefoldWorks::addBoard);
    }

    private void turns() {
        check.sentence(0, "To turn it over makes x 7 less x; a quarter makes x 7 less y, and y the x of before");
        int[] hook = Build.squaresOf(HOOKS[0], 0, 0);
        int[] farHook = Build.squaresOf(HOOKS[0], 5, 6);
        for (int turn = 0; turn < 8; turn++) {
            boolean lies = turn % 2 == 0;
            int lastRow = lies ? 6 : 5;
            int lastColumn = lies ? 5 : 6;
            int[][] corners = {{0, 0}, {0, lastColumn}, {lastRow, 0}, {lastRow, lastColumn}, {3, 2}};
            for (int[] corner : corners) {
                int due = 100 * turn + 10 * corner[0] + corner[1];
                int[] free = Build.squaresOf(HOOKS[turn], corner[1], corner[0]);
                check.due("the hook fits at " + due, due, () -> of(hook, free).fits(0, 0));
                check.due("the far hook fits at " + due, due, () -> of(farHook, free).fits(0, 0));
                check.due("the hook is laid at " + due, 0, () -> of(hook, free).lay(0, 0));
            }
        }
    }

    private void firstOfMany() {
        check.sentence(0, "It is laid where it fits first, by turns, then rows, then columns");
        int[] line = {0, 1, 2};
        check.due("a turn before a row", 50, () -> of(line, 0, 8, 16, 40, 41, 42).fits(0, 0));
        check.due("a turn before a column", 5, () -> of(line, 0, 8, 16, 5, 6, 7).fits(0, 0));
        check.due("a row before a column", 5, () -> of(line, 5, 6, 7, 8, 9, 10).fits(0, 0));
        check.due("the lower row", 40, () -> of(line, 32, 33, 34, 56, 57, 58).fits(0, 0));
        check.due("the lower column", 41, () -> of(line, 33, 34, 35, 37, 38, 39).fits(0, 0));
        check.due("the lower turn of two that look alike", 100, () -> of(line, 0, 8, 16).fits(0, 0));
        int[] places = {0, 3, 110, 140};
        CubefoldWorks works = of(line, 0, 1, 2, 3, 4, 5, 8, 16, 24, 32, 40, 48);
        for (int place : places) {
            check.due("one place after the other", place, () -> works.fits(0, 0));
            works.lay(0, 0);
        }
        check.due("no more places", Check.ELEMENT, () -> works.fits(0, 0));
        check.sentence(0, "A sheet fits if its squares all lie on the board, on free squares");
        check.due("a column of eight fits as the last row", 170, () -> freeRim(7, 8, 1, 8).fits(1, 0));
        check.due("a row of eight fits as the last row", 70, () -> freeRim(7, 8, 8, 1).fits(1, 0));
        check.due("a column of eight fits as the last column", 7, () -> freeRim(8, 7, 1, 8).fits(1, 0));
        check.due("a row of eight fits as the last column", 107, () -> freeRim(8, 7, 8, 1).fits(1, 0));
        check.due("a block of two by eight does not fit in a row", Check.ELEMENT, () -> freeRim(7, 8, 8, 2).fits(1, 0));
        check.due("a line does not go on in the next row", Check.ELEMENT, () -> of(line, 6, 7, 8).fits(0, 0));
        check.due("a line does not go on in the next column", Check.ELEMENT, () -> of(line, 48, 56, 1).fits(0, 0));
        check.due("one square of it is not free", Check.ELEMENT, () -> of(line, 0, 1, 3, 4, 16).fits(0, 0));
        check.due("far corners", 0, () -> of(new int[] {0, 63}, 0, 63).fits(0, 0));
        check.due("the other far corners", 100, () -> of(new int[] {0, 63}, 7, 56).fits(0, 0));
        check.due("far corners, of which one is not free", Check.ELEMENT,
                () -> of(new int[] {0, 63}, 0, 7, 8, 1, 9, 62, 55, 54).fits(0, 0));
        check.due("far corners, of which the other one is not free", Check.ELEMENT,
                () -> of(new int[] {0, 63}, 63, 56, 55, 62, 54, 1, 8, 9).fits(0, 0));
        check.due("all squares fit in a free board", 0, () -> Build.filled(withFreeBoard(), 0).fits(0, 0));
        check.due("all squares do not where one is not free", Check.ELEMENT, () -> {
            CubefoldWorks last = withFreeBoard();
            last.addSheet();
            Build.fill(last, 1);
            last.set(0, 63, true);
            last.lay(0, 0);
            return last.fits(1, 0);
        });
    }

    /** A sheet of so many rows and columns is laid; the sheet 1 has other rows and columns. */
    private static CubefoldWorks freeRim(int rows, int columns, int otherColumns, int otherRows) {
        CubefoldWorks works = Build.works();
        works.addBoard();
        for (int sheet = 0; sheet < 2; sheet++) {
            works.addSheet();
            for (int square = 0; square < 64; square++) {
                boolean isLow = sheet == 0 ? square / 8 < rows && square % 8 < columns
                        : square / 8 < otherRows && square % 8 < otherColumns;
                works.set(sheet, square, isLow);
            }
        }
        works.lay(0, 0);
        return works;
    }

    private void apart() {
        check.sentence(0, "a sheet that is not one is, too, and is cut and ordered like others");
        check.due("it fits", 0, () -> withFreeBoard(0, 2).fits(0, 0));
        check.due("it is laid", 62, () -> withFreeBoard(0, 2).lay(0, 0));
        check.due("the square between is free", "false true false", () -> {
            CubefoldWorks works = withFreeBoard(0, 2);
            works.lay(0, 0);
            return works.isFree(0, 0) + " " + works.isFree(0, 1) + " " + works.isFree(0, 2);
        });
        check.due("it fits around others", 1, () -> {
            CubefoldWorks works = withFreeBoard(0, 2);
            works.lay(0, 0);
            return works.fits(0, 0);
        });
        check.due("corners of the board", 0, () -> of(new int[] {0, 7, 56, 63}, 0, 7, 56, 63).fits(0, 0));
        check.due("it is cut", 8, () -> withFreeBoard(0, 2).cut(0));
        check.due("it is ordered", 28, () -> withFreeBoard(0, 2).order(0, 0));
    }

    private void fits() {
        check.sentence(24, "Returns 100 times the turn, 10 times the row, and the column");
        check.due("the least", 0, () -> withFreeBoard(63).fits(0, 0));
        check.due("the last square", 77, () -> of(new int[] {0}, 63).fits(0, 0));
        check.due("the last turn", 756, () -> of(Build.squaresOf(HOOKS[0], 0, 0),
                Build.squaresOf(HOOKS[7], 6, 5)).fits(0, 0));
        check.sentence(24, NO_SHEET_OR_BOARD);
        check.due("the last sheet, the first board", 0, () -> Build.full().fits(7, 0));
        check.due("the second sheet, the last board but one", 0, () -> Build.full().fits(1, 2));
        SheetBounds.noSuchSheet(check, (works, sheet) -> works.fits(sheet, 0));
        noSuchBoard((works, board) -> works.fits(0, board));
        check.sentence(24, "NoSuchElementException if it fits nowhere, or has no squares");
        check.refuses("nowhere in a full board", Check.ELEMENT, Build::full, works -> works.fits(1, 3));
        check.refuses("all squares, one is not free", Check.ELEMENT, () -> {
            CubefoldWorks works = withFreeBoard(0);
            works.lay(0, 0);
            return Build.filled(works, 0);
        }, works -> works.fits(0, 0));
        check.refuses("no squares, a free board", Check.ELEMENT, Build::full, works -> works.fits(0, 0));
        check.refuses("no squares, a full board", Check.ELEMENT, Build::full, works -> works.fits(0, 3));
        check.sentence(24, FIRST);
        check.refuses("no board, no squares", Check.INDEX, Build::full, works -> works.fits(0, 4));
        check.refuses("no board, no squares", Check.INDEX, Build::full, works -> works.fits(0, -1));
        check.refuses("no sheet, and nothing free", Check.INDEX, Build::full, works -> works.fits(8, 3));
        check.refuses("no sheet, and nothing free", Check.INDEX, Build::full, works -> works.fits(-1, 3));
    }

    private void lay() {
        check.sentence(25, "Returns how many squares are free");
        check.due("the most", 63, () -> withFreeBoard(63).lay(0, 0));
        check.due("none", 0, () -> Build.filled(withFreeBoard(), 0).lay(0, 0));
        check.due("none, by the last square", 0, () -> of(new int[] {9}, 63).lay(0, 0));
        check.due("the other boards are as they were", "64 63 58 0", () -> {
            CubefoldWorks works = Build.full();
            works.lay(1, 1);
            return works.free(0) + " " + works.free(1) + " " + works.free(2) + " " + works.free(3);
        });
        check.sentence(25, NO_SHEET_OR_BOARD);
        check.due("the last sheet, the first board", 61, () -> Build.full().lay(7, 0));
        check.due("the second sheet, the last board but one", 57, () -> Build.full().lay(1, 2));
        SheetBounds.noSuchSheet(check, (works, sheet) -> works.lay(sheet, 0));
        noSuchBoard((works, board) -> works.lay(0, board));
        check.sentence(25, "UnsupportedOperationException if it fits nowhere, or has no squares");
        check.refuses("nowhere in a full board", Check.UNSUPPORTED, Build::full, works -> works.lay(1, 3));
        check.refuses("nowhere beside a cross", Check.UNSUPPORTED, Build::full, works -> works.lay(3, 2));
        check.refuses("a line where but corners meet", Check.UNSUPPORTED, () -> of(new int[] {0, 1}, 0, 9, 18, 27),
                works -> works.lay(0, 0));
        check.refuses("no squares, a free board", Check.UNSUPPORTED, Build::full, works -> works.lay(0, 0));
        check.refuses("no squares, a full board", Check.UNSUPPORTED, Build::full, works -> works.lay(0, 3));
        check.sentence(25, FIRST);
        check.refuses("no board, no squares", Check.INDEX, Build::full, works -> works.lay(0, 4));
        check.refuses("no board, no squares", Check.INDEX, Build::full, works -> works.lay(0, -1));
        check.refuses("no sheet, and nothing free", Check.INDEX, Build::full, works -> works.lay(8, 3));
        check.refuses("no sheet, and nothing free", Check.INDEX, Build::full, works -> works.lay(-1, 3));
    }

    private void free() {
        check.sentence(26, NO_BOARD);
        check.due("the first of four", 64, () -> Build.full().free(0));
        check.due("the last of four", 0, () -> Build.full().free(3));
        noSuchBoard(CubefoldWorks::free);
        check.sentence(26, "free: of a free and of a full board");
        CubefoldWorks works = withFreeBoard(0);
        for (int used = 0; used <= 64; used++) {
            int due = 64 - used;
            check.due("free", due, () -> works.free(0));
            check.due("lay", due > 0 ? due - 1 : Check.UNSUPPORTED, () -> works.lay(0, 0));
        }
    }

    private void isFree() {
        check.sentence(27, NO_BOARD);
        check.due("the first of four", true, () -> Build.full().isFree(0, 0));
        check.due("the last of four", false, () -> Build.full().isFree(3, 0));
        noSuchBoard((works, board) -> works.isFree(board, 0));
        check.sentence(27, "square: 0 to 63");
        check.due("the first is free", true, () -> of(new int[0], 0).isFree(0, 0));
        check.due("the first is not", false, () -> of(new int[0], 1).isFree(0, 0));
        check.due("the last is free", true, () -> of(new int[0], 63).isFree(0, 63));
        check.due("the last is not", false, () -> of(new int[0], 62).isFree(0, 63));
        check.sentence(27, "IllegalArgumentException if a number is out of range");
        for (int wrong : Build.NO_PLACES) {
            check.refuses("isFree(0, " + wrong + ")", Check.ARGUMENT, Build::one, works -> works.isFree(0, wrong));
        }
        check.sentence(27, FIRST);
        check.refuses("no board, no square", Check.INDEX, Build::full, works -> works.isFree(4, 64));
        check.refuses("no board, no square", Check.INDEX, Build::works, works -> works.isFree(-1, -1));
    }

    /** A works whose sheet 0 is one square, 1 are two squares; its knife has cut so much, by single squares. */
    private static CubefoldWorks cutSo(int cut) {
        CubefoldWorks works = SheetBounds.of(0);
        Build.sheet(works, 0, 1);
        int done = cut % 4 == 0 ? 0 : works.cut(1);
        while (done < cut) {
            done = works.cut(0);
        }
        return works;
    }

    private void knife() {
        check.sentence(0, "A knife is sharp at first");
        check.due("it cuts", 4, () -> SheetBounds.of(0).cut(0));
        check.due("it has cut nothing", 0, () -> Build.works().sharpen());
        check.sentence(0, "when it has cut 100 or more since it was sharpened, it is blunt, and cuts nothing");
        check.due("at 96 it cuts", 100, () -> cutSo(96).cut(0));
        check.due("at 98 it cuts", 102, () -> cutSo(98).cut(0));
        check.refuses("at 100 it does not", Check.UNSUPPORTED, () -> cutSo(100), works -> works.cut(0));
        check.refuses("at 102 it does not", Check.UNSUPPORTED, () -> cutSo(102), works -> works.cut(0));
        check.due("the longest edge at once", 128, () -> SheetBounds.everyOther().cut(0));
        check.refuses("then it is blunt", Check.UNSUPPORTED, () -> {
            CubefoldWorks works = SheetBounds.everyOther();
            works.cut(0);
            return works;
        }, works -> works.cut(0));
        check.due("the most that it can cut", "98 226 226", () -> {
            CubefoldWorks works = SheetBounds.everyOther();
            Build.sheet(works, 0);
            Build.sheet(works, 0, 1);
            int cut = works.cut(2);
            while (cut < 98) {
                cut = works.cut(1);
            }
            return cut + " " + works.cut(0) + " " + works.sharpen();
        });
        check.due("sharpened at 100 it cuts", 4, () -> {
            CubefoldWorks works = cutSo(100);
            works.sharpen();
            return works.cut(0);
        });
        check.due("100 since it was sharpened, not in all", "96 4 96 100", () -> {
            CubefoldWorks works = cutSo(96);
            StringBuilder told = new StringBuilder().append(works.sharpen()).append(' ').append(works.cut(0));
            for (int many = 2; many < 24; many++) {
                works.cut(0);
            }
            return told.append(' ').append(works.cut(0)).append(' ').append(works.cut(0)).toString();
        });
    }

    private void cut() {
        check.sentence(28, "IndexOutOfBoundsException if there is no such sheet");
        check.due("the first of many", 4, () -> cutSo(0).cut(0));
        check.due("the last of eight", 8, () -> {
            CubefoldWorks works = Build.full();
            works.sharpen();
            return works.cut(7);
        });
        SheetBounds.noSuchSheet(check, CubefoldWorks::cut);
        check.sentence(28, "UnsupportedOperationException if it has no squares, or the knife is blunt");
        check.refuses("no squares", Check.UNSUPPORTED, () -> SheetBounds.of(), works -> works.cut(0));
        check.refuses("no squares any more", Check.UNSUPPORTED, () -> {
            CubefoldWorks works = cutSo(8);
            works.set(0, 0, false);
            return works;
        }, works -> works.cut(0));
        check.refuses("blunt", Check.UNSUPPORTED, Build::full, works -> works.cut(1));
        check.refuses("no squares, and blunt", Check.UNSUPPORTED, Build::full, works -> works.cut(0));
        check.sentence(28, FIRST);
        check.refuses("no sheet, and blunt", Check.INDEX, Build::full, works -> works.cut(8));
        check.refuses("no sheet, and blunt", Check.INDEX, Build::full, works -> works.cut(-1));
    }

    private void sharpen() {
        check.sentence(29, "Returns what it had cut");
        check.due("nothing yet", 0, () -> Build.works().sharpen());
        check.due("a little", 4, () -> cutSo(4).sharpen());
        check.due("all but blunt", 98, () -> cutSo(98).sharpen());
        check.due("just blunt", 100, () -> cutSo(100).sharpen());
        check.due("blunt", 128, () -> Build.full().sharpen());
        check.due("nothing since", "128 0 0", () -> {
            CubefoldWorks works = Build.full();
            return works.sharpen() + " " + works.sharpen() + " " + works.sharpen();
        });
    }
}
