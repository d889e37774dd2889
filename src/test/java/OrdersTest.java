import java.util.NoSuchElementException;

/** Promises 35 to 39. */
final class OrdersTest {

    private static final int[] WRONG = {-1, 64, Integer.MIN_VALUE, Integer.MAX_VALUE};

    private OrdersTest() {
    }

    static void run(Check check) {
        patent(check);
        patentOf(check);
        manyPatents(check);
        order(check);
        orderPrices(check);
        makeAndEarned(check);
    }

    private static void patent(Check check) {
        check.promise(35);
        CubefoldWorks works = Build.works();
        check.refused("no sheet", IndexOutOfBoundsException.class, works, () -> works.patent(0));
        int sheet = works.addSheet();
        check.refused("without squares", UnsupportedOperationException.class, works, () -> works.patent(sheet));
        for (int wrong : WRONG) {
            check.refused("no such sheet", IndexOutOfBoundsException.class, works, () -> works.patent(wrong));
        }
        works.set(sheet, 0, true);
        works.set(sheet, 9, true);
        check.refused("not one", UnsupportedOperationException.class, works, () -> works.patent(sheet));
        works.set(sheet, 1, true);
        check.due("the first patent", 1, () -> works.patent(sheet));
        check.refused("the same sheet", UnsupportedOperationException.class, works, () -> works.patent(sheet));
        int alike = Build.sheet(works, 63, 62, 54);
        check.refused("one alike", UnsupportedOperationException.class, works, () -> works.patent(alike));
        works.set(sheet, 0, false);
        works.set(sheet, 17, true);
        check.due("as it is then, now a line", 2, () -> works.patent(sheet));
        check.refused("the angle has its patent still", UnsupportedOperationException.class, works,
                () -> works.patent(alike));
    }

    private static void patentOf(Check check) {
        check.promise(36);
        CubefoldWorks works = Build.works();
        check.refused("no sheet", IndexOutOfBoundsException.class, works, () -> works.patentOf(0));
        int line = Build.sheet(works, 0, 1, 2);
        int angle = Build.sheet(works, 0, 1, 8);
        int other = Build.sheet(works, 47, 55, 63);
        check.refused("no patents", NoSuchElementException.class, works, () -> works.patentOf(line));
        works.patent(angle);
        check.refused("none on a line", NoSuchElementException.class, works, () -> works.patentOf(line));
        works.patent(line);
        check.due("the angle", 0, () -> works.patentOf(angle));
        check.due("the line", 1, () -> works.patentOf(line));
        check.due("the other line", 1, () -> works.patentOf(other));
        works.set(other, 63, false);
        check.refused("it is no line now", NoSuchElementException.class, works, () -> works.patentOf(other));
        works.set(other, 54, true);
        check.due("it is an angle now", 0, () -> works.patentOf(other));
        Build.clear(works, angle);
        check.refused("without squares", NoSuchElementException.class, works, () -> works.patentOf(angle));
        check.due("the patent stays", 0, () -> works.patentOf(other));
        for (int wrong : WRONG) {
            check.refused("patentOf", IndexOutOfBoundsException.class, works, () -> works.patentOf(wrong));
        }
        check.refused("sheet 3 of 3", IndexOutOfBoundsException.class, works, () -> works.patentOf(3));
    }

    /** Rows that grow square by square, and then all sheets with one hole, are unlike but for turns. */
    private static void manyPatents(Check check) {
        CubefoldWorks works = Build.works();
        int sheet = works.addSheet();
        for (int square = 0; square < 64; square++) {
            int due = square + 1;
            int number = square;
            works.set(sheet, square, true);
            check.promise(35);
            check.due("patent on " + due, due, () -> works.patent(sheet));
            check.promise(36);
            check.due("patentOf " + due, number, () -> works.patentOf(sheet));
        }
        int patents = 64;
        for (int hole : new int[] {9, 10, 11, 18, 19, 27}) {
            works.set(sheet, hole, false);
            int due = ++patents;
            check.promise(35);
            check.due("patent on a hole", due, () -> works.patent(sheet));
            works.set(sheet, hole, true);
            for (int turn = 0; turn < 8; turn++) {
                int turned = Model.turnedSquare(hole, turn);
                works.set(sheet, turned, false);
                check.promise(36);
                check.due("a hole, turned", due - 1, () -> works.patentOf(sheet));
                works.set(sheet, turned, true);
            }
        }
    }

    private static void order(Check check) {
        check.promise(37);
        CubefoldWorks works = Build.works();
        check.refused("no sheet", IndexOutOfBoundsException.class, works, () -> works.order(0, 100));
        int sheet = works.addSheet();
        check.refused("without squares", UnsupportedOperationException.class, works, () -> works.order(sheet, 0));
        check.refused("no day, no squares", IllegalArgumentException.class, works, () -> works.order(sheet, 100));
        works.set(sheet, 5, true);
        for (int wrong : new int[] {-1, 100, Integer.MIN_VALUE, Integer.MAX_VALUE}) {
            check.refused("no such sheet", IndexOutOfBoundsException.class, works, () -> works.order(wrong, 0));
            check.refused("no such day", IllegalArgumentException.class, works, () -> works.order(sheet, wrong));
        }
        check.due("the first day", 14, () -> works.order(sheet, 0));
        check.due("the last day", 14, () -> works.order(sheet, 99));
        int domino = Build.sheet(works, 5, 6);
        works.patent(domino);
        check.refused("a patent bars it", UnsupportedOperationException.class, works, () -> works.order(domino, 5));
        check.refused("no day, and barred", IllegalArgumentException.class, works, () -> works.order(domino, -1));
        int same = Build.sheet(works, 63, 55);
        check.refused("a patent bars one alike", UnsupportedOperationException.class, works,
                () -> works.order(same, 5));
        int empty = works.addSheet();
        for (int many = 3; many <= 20; many++) {
            check.due("order", 14, () -> works.order(sheet, 50));
        }
        check.refused("20 wait", IllegalStateException.class, works, () -> works.order(sheet, 0));
        check.refused("20 wait, and barred", UnsupportedOperationException.class, works, () -> works.order(same, 0));
        check.refused("20 wait, no squares", UnsupportedOperationException.class, works, () -> works.order(empty, 0));
        check.refused("20 wait, no day", IllegalArgumentException.class, works, () -> works.order(sheet, 100));
        check.due("one is made", 14, works::make);
        check.due("one more can wait", 14, () -> works.order(sheet, 0));
        check.refused("20 wait again", IllegalStateException.class, works, () -> works.order(sheet, 0));
    }

    private static void orderPrices(Check check) {
        CubefoldWorks works = Build.works();
        int sheet = Build.sheet(works, Build.squaresOf("#...,####,#...", 1, 1));
        check.due("a sheet that folds", 124, () -> works.order(sheet, 9));
        works.set(sheet, 9, false);
        check.due("five squares", 62, () -> works.order(sheet, 9));
        works.set(sheet, 63, true);
        check.due("not one, and no cube", 76, () -> works.order(sheet, 9));
        Build.fill(works, sheet);
        check.due("a full sheet", 672, () -> works.order(sheet, 9));
        works.set(sheet, 27, false);
        check.due("a hole", 666, () -> works.order(sheet, 9));
        check.promise(38);
        int[] dues = {124, 62, 76, 672, 666};
        for (int due : dues) {
            check.due("the price as it was ordered", due, works::make);
        }
        check.promise(39);
        check.due("the sum", 1600L, works::earned);
    }

    private static void makeAndEarned(Check check) {
        CubefoldWorks works = Build.works();
        check.promise(39);
        check.due("earned at first", 0L, works::earned);
        check.promise(38);
        check.refused("none waits", NoSuchElementException.class, works, works::make);
        int sheet = works.addSheet();
        int[] days = {50, 99, 0, 50, 0, 99, 50, 1, 98, 0};
        for (int index = 0; index < days.length; index++) {
            works.set(sheet, 8 * (index / 4) + 2 * (index % 4) + index / 4 % 2, true);
            check.promise(37);
            int due = 14 * (index + 1);
            int day = days[index];
            check.due("order", due, () -> works.order(sheet, day));
        }
        Build.clear(works, sheet);
        int[] turns = {3, 5, 10, 8, 1, 4, 7, 9, 2, 6};
        long sum = 0;
        for (int turn : turns) {
            int due = 14 * turn;
            check.promise(38);
            check.due("make", due, works::make);
            sum += due;
            long earned = sum;
            check.promise(39);
            check.due("earned", earned, works::earned);
        }
        check.promise(38);
        check.refused("none waits any more", NoSuchElementException.class, works, works::make);
        Build.fill(works, sheet);
        works.order(sheet, 7);
        works.patent(sheet);
        check.due("a patent does not bar what waits", 672, works::make);
        orderBetween(check);
    }

    private static void orderBetween(Check check) {
        check.promise(38);
        CubefoldWorks works = Build.works();
        int[] sheets = {Build.sheet(works, 0), Build.sheet(works, 0, 2), Build.sheet(works, 0, 2, 4),
            Build.sheet(works, 0, 2, 4, 6)};
        works.order(sheets[0], 5);
        works.order(sheets[1], 10);
        check.due("the first day", 14, works::make);
        works.order(sheets[2], 7);
        works.order(sheets[3], 3);
        check.due("a day that came later", 56, works::make);
        check.due("a day between", 42, works::make);
        check.due("the last day", 28, works::make);
    }
}
