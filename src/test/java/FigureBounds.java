import java.math.BigInteger;
import java.util.Arrays;

/** The sentences of promises 1 and 40 to 43, and of the Terms on calls, that name a boundary. */
final class FigureBounds {

    private static final String CHANGES_NOTHING = "A method that throws an exception changes nothing";

    private final Check check;

    private FigureBounds(Check check) {
        this.check = check;
    }

    static void run(Check check) {
        FigureBounds bounds = new FigureBounds(check);
        bounds.newObject();
        bounds.checksumOfLittle();
        bounds.checksumOfMuch();
        bounds.usedShare();
        bounds.meanSkin();
        bounds.isSound();
        bounds.readingCalls();
        bounds.refusedAgainAndAgain();
        bounds.callsThatCameBefore();
    }

    private void newObject() {
        check.sentence(1, "Creates a works without bodies, sheets and boards; the die lies on the square 0");
        check.due("no bodies", Check.INDEX, () -> Build.works().cubes(0));
        check.due("no kinds", 0, () -> Build.works().kinds());
        check.due("no sheets", Check.INDEX, () -> Build.works().squares(0));
        check.due("no boards", Check.INDEX, () -> Build.works().free(0));
        check.due("no patents", 1, () -> SheetBounds.of(0).patent(0));
        check.due("no orders", Check.ELEMENT, () -> Build.works().make());
        check.due("nothing earned", 0L, () -> Build.works().earned());
        check.due("nothing cut", 0, () -> Build.works().sharpen());
        check.due("the square of the die", 0, () -> Build.works().put(63));
        check.due("the die is in the first corner", Check.UNSUPPORTED, () -> Build.works().roll('n'));
        check.due("the die is in the first corner", Check.UNSUPPORTED, () -> Build.works().roll('w'));
        CubefoldWorks full = Build.full();
        check.due("made beside a full one", "0 0 0", () -> {
            CubefoldWorks works = Build.works();
            return works.addBody(0) + " " + works.addSheet() + " " + works.addBoard();
        });
        check.due("the full one stays so", Check.STATE, () -> full.addBody(0));
    }

    private static long sumOf(int... numbers) {
        long sum = 7;
        for (int number : numbers) {
            sum = 31 * sum + number;
        }
        return sum;
    }

    private void checksumOfLittle() {
        check.sentence(40, "Returns 7 at first");
        check.due("a new object", 6733L, () -> Build.works().checksum());
        check.due("the die on the last square", sumOf(63, 6), () -> {
            CubefoldWorks works = Build.works();
            works.put(63);
            return works.checksum();
        });
        check.sentence(40, "each body and each of its cells, by numbers");
        check.due("the cell 0 counts", sumOf(0, 0, 6), () -> checksumOfBody(0));
        check.due("the cell 63 counts", sumOf(63, 0, 6), () -> checksumOfBody(63));
        check.due("added downwards", sumOf(60, 61, 62, 63, 0, 6), () -> checksumOfBody(63, 62, 61, 60));
        check.due("bodies as they are numbered", sumOf(63, 0, 0, 6), () -> {
            CubefoldWorks works = Build.works();
            works.addBody(63);
            works.addBody(0);
            return works.checksum();
        });
        check.sentence(40, "then each sheet and each of its squares likewise");
        check.due("an empty sheet", sumOf(0, 6), () -> SheetBounds.of().checksum());
        check.due("the square 0 counts", sumOf(0, 0, 6), () -> SheetBounds.of(0).checksum());
        check.due("set downwards", sumOf(0, 31, 32, 63, 0, 6), () -> SheetBounds.of(63, 32, 31, 0).checksum());
        check.due("sheets as they are numbered", sumOf(63, 0, 0, 6), () -> {
            CubefoldWorks works = SheetBounds.of(63);
            Build.sheet(works, 0);
            return works.checksum();
        });
        check.sentence(40, "then each board and the free squares, by how many there are");
        check.due("a free board", sumOf(64, 0, 6), () -> {
            CubefoldWorks works = Build.works();
            works.addBoard();
            return works.checksum();
        });
        check.due("a full board and a free one", sumOf(5, 0, 64, 0, 6), () -> {
            CubefoldWorks works = Build.filled(SheetBounds.of(), 0);
            works.addBoard();
            works.addBoard();
            works.lay(0, 0);
            Build.clear(works, 0);
            works.set(0, 5, true);
            return works.checksum();
        });
        check.sentence(40, "then the square of the die, then what is below");
        check.due("after a roll", sumOf(8, 5), () -> {
            CubefoldWorks works = Build.works();
            works.roll('s');
            return works.checksum();
        });
    }

    private static long checksumOfBody(int... cells) {
        CubefoldWorks works = Build.works();
        Build.body(works, cells);
        return works.checksum();
    }

    /** Sums far beyond a long, as a whole number of any length, cut to its lowest 64 bits. */
    private void checksumOfMuch() {
        check.sentence(40, "the sum wraps around");
        CubefoldWorks works = Build.works();
        BigInteger sum = BigInteger.valueOf(7);
        int[] cells = Build.BLOCK;
        for (int body = 0; body < 8; body++) {
            Build.body(works, cells);
            sum = added(sum, cells);
        }
        boolean below = false;
        boolean above = false;
        int[] squares = new int[0];
        works.addSheet();
        for (int square = 0; square < 64; square++) {
            works.set(0, square, true);
            squares = Arrays.copyOf(squares, square + 1);
            squares[square] = square;
            long due = added(sum, squares, 0, 6).longValue();
            below |= due < 0;
            above |= due > 0;
            check.due("with " + (square + 1) + " squares", due, works::checksum);
        }
        boolean both = below && above;
        check.due("it came below 0 and above it", true, () -> both);
        check.due("it is more than a long holds", true, () -> added(BigInteger.valueOf(7), Build.BLOCK, Build.BLOCK)
                .bitLength() > 63);
        check.due("of the full works", fullSum(), () -> Build.full().checksum());
    }

    private static BigInteger added(BigInteger start, int[] numbers, int... more) {
        BigInteger sum = start;
        for (int number : numbers) {
            sum = sum.multiply(BigInteger.valueOf(31)).add(BigInteger.valueOf(number));
        }
        return more.length == 0 ? sum : added(sum, more);
    }

    private static long fullSum() {
        int[] all = new int[64];
        for (int square = 0; square < 64; square++) {
            all[square] = square;
        }
        int[][] parts = {{0}, {62, 63}, {0, 1, 5, 21}, {0, 1, 4, 20}, {0, 1, 2}, {58, 62, 63}, {42, 43, 47},
            Build.BLOCK, {}, {63}, Build.CROSS, all, {0, 63}, {5, 6}, {55, 63}, {0, 1, 8}, {64, 64, 58, 0},
            {63, 5}};
        BigInteger sum = BigInteger.valueOf(7);
        for (int[] part : parts) {
            sum = added(sum, part);
        }
        return sum.longValue();
    }

    private static CubefoldWorks withBoards(int boards, int full, int rest) {
        CubefoldWorks works = Build.filled(SheetBounds.of(), 0);
        for (int board = 0; board < boards; board++) {
            works.addBoard();
        }
        for (int board = 0; board < full; board++) {
            works.lay(0, board);
        }
        Build.clear(works, 0);
        works.set(0, 0, true);
        for (int square = 0; square < rest; square++) {
            works.lay(0, full);
        }
        return works;
    }

    private void usedShare() {
        check.sentence(41, "Returns their number divided by that of all, both converted to float");
        for (int boards = 1; boards <= 4; boards++) {
            int many = boards;
            check.due("none is used", 0.0f, () -> withBoards(many, 0, 0).usedShare());
            check.due("all are used", 1.0f, () -> withBoards(many, many, 0).usedShare());
            check.due("one is used", 1.0f / (float) (64 * many), () -> withBoards(many, 0, 1).usedShare());
            check.due("all but one", (float) (64 * many - 1) / (float) (64 * many),
                    () -> withBoards(many, many - 1, 63).usedShare());
        }
        check.due("a third, as a float", 64.0f / 192.0f, () -> withBoards(3, 1, 0).usedShare());
        check.due("two thirds, as a float", 0.6666667f, () -> withBoards(3, 2, 0).usedShare());
        check.sentence(41, "ArithmeticException if there are no boards");
        check.refuses("a new object", Check.ARITHMETIC, Build::works, CubefoldWorks::usedShare);
        check.refuses("bodies and sheets alone", Check.ARITHMETIC, () -> {
            CubefoldWorks works = SheetBounds.of(5);
            works.addBody(5);
            return works;
        }, CubefoldWorks::usedShare);
    }

    private void meanSkin() {
        check.sentence(42, "Returns the sum divided by their number, both converted to double");
        CubefoldWorks cubes = Build.works();
        CubefoldWorks snakes = Build.works();
        for (int body = 0; body < 8; body++) {
            cubes.addBody(63);
            Build.body(snakes, 0, 1, 2, 3, 7, 11, 15, 31);
            check.due("the least", 6.0, cubes::meanSkin);
            check.due("the greatest", 34.0, snakes::meanSkin);
        }
        CubefoldWorks third = Build.works();
        third.addBody(0);
        third.addBody(1);
        Build.body(third, 0, 1);
        check.due("a mean that is not whole", 22.0 / 3.0, third::meanSkin);
        check.due("of eight", (6 + 10 + 18 + 18 + 14 + 14 + 14 + 24) / 8.0, () -> Build.full().meanSkin());
        check.sentence(42, "ArithmeticException if there are none");
        check.refuses("a new object", Check.ARITHMETIC, Build::works, CubefoldWorks::meanSkin);
        check.refuses("sheets and boards alone", Check.ARITHMETIC, () -> withBoards(1, 0, 1),
                CubefoldWorks::meanSkin);
    }

    private void isSound() {
        check.sentence(43, "Returns true if so");
        check.due("a new object", true, () -> Build.works().isSound());
        check.due("one of each", true, () -> Build.one().isSound());
        check.due("as much of all as there can be", true, () -> Build.full().isSound());
        CubefoldWorks rolling = Build.works();
        for (char way : "eeeessss".toCharArray()) {
            rolling.roll(way);
            check.due("the die lies with " + rolling.below() + " below", true, rolling::isSound);
        }
        CubefoldWorks waiting = Build.full();
        for (int many = 19; many >= 0; many--) {
            waiting.make();
            check.due(many + " orders wait", true, waiting::isSound);
        }
        check.due("after refused calls", true, () -> {
            CubefoldWorks works = Build.full();
            Check.outcome(() -> works.addBody(0));
            Check.outcome(() -> works.roll('s'));
            Check.outcome(() -> works.cut(0));
            return works.isSound();
        });
    }

    private void readingCalls() {
        check.sentence(0, "Nothing is promised beyond the answers and state changes: calls that tell change nothing");
        Check.Use[] readings = {works -> works.cubes(7), works -> works.skin(7), works -> works.areAlike(5, 6),
            works -> works.areMirrored(2, 3), CubefoldWorks::kinds, works -> works.all(4), works -> works.squares(3),
            works -> works.edge(3), works -> works.isOne(4), works -> works.areLike(5, 6), works -> works.ways(7),
            works -> works.folds(2), works -> works.opposite(2, 9), works -> works.cubeAdds(2),
            works -> works.depth(2, 9, 25), works -> works.fold(2, 9, 0), works -> works.fits(2, 2),
            works -> works.free(2), works -> works.isFree(2, 0), CubefoldWorks::below, CubefoldWorks::onTop,
            works -> works.rolls(0, 1), works -> works.patentOf(6), CubefoldWorks::earned, CubefoldWorks::checksum,
            CubefoldWorks::usedShare, CubefoldWorks::meanSkin, CubefoldWorks::isSound};
        for (int index = 0; index < readings.length; index++) {
            Check.Use reading = readings[index];
            check.due("reading call " + index, false, () -> Check.outcome(() -> reading.on(Build.full()))
                    instanceof Class);
            check.leavesNoTrace("reading call " + index, Build::full, reading);
            check.due("reading call " + index + " twice", reading.on(Build.full()), () -> {
                CubefoldWorks works = Build.full();
                reading.on(works);
                return reading.on(works);
            });
        }
    }

    private void refusedAgainAndAgain() {
        check.sentence(0, CHANGES_NOTHING);
        check.leavesNoTrace("sixty refused calls", Build::full, works -> {
            for (int many = 0; many < 30; many++) {
                Check.outcome(() -> works.addCube(7, 37));
                Check.outcome(() -> works.cut(1));
            }
            return 0;
        });
        Check.Use[] refused = {works -> works.addBody(0), works -> works.addCube(7, 37), works -> works.takeCube(0, 0),
            CubefoldWorks::addSheet, works -> works.set(8, 0, true), works -> works.set(0, 64, true),
            works -> works.opposite(2, 0), works -> works.depth(2, 9, 0), works -> works.fold(2, 9, 5),
            CubefoldWorks::addBoard, works -> works.fits(3, 2), works -> works.lay(3, 2), works -> works.cut(3),
            works -> works.put(64), works -> works.roll('e'), works -> works.roll('x'), works -> works.patent(6),
            works -> works.patentOf(3), works -> works.order(3, 0), works -> works.order(6, 0)};
        check.leavesNoTrace("each refused call, one after the other", Build::full, works -> {
            for (Check.Use call : refused) {
                check.due("a refused call", true, () -> Check.outcome(() -> call.on(works)) instanceof Class);
            }
            return 0;
        });
    }

    /** Rows that calls share tell no call what another one left in them. */
    private void callsThatCameBefore() {
        check.sentence(0, "Nothing is promised beyond the answers and state changes: calls that tell change nothing");
        CubefoldWorks works = Build.full();
        for (int times = 0; times < 3; times++) {
            check.due("rolls", 14, () -> works.rolls(0, 5));
            check.due("opposite", 25, () -> works.opposite(2, 9));
            check.due("folds", false, () -> works.folds(3));
            check.due("depth over all", 14, () -> works.depth(3, 0, 63));
            check.due("depth over a few", 1, () -> works.depth(5, 5, 6));
            check.due("fold of all", 63, () -> works.fold(3, 0, 0));
            check.due("fold of a few", 6, () -> works.fold(5, 5, 0));
            check.due("cubeAdds", 0, () -> works.cubeAdds(3));
            check.due("kinds", 7, works::kinds);
            check.due("fold of some", 17, () -> works.fold(2, 9, 4));
            check.due("opposite again", 1, () -> works.opposite(2, 17));
        }
    }
}
