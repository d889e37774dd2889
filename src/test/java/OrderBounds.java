import java.util.ArrayList;
import java.util.List;

/** The sentences of promises 35 to 39, and of the Terms on patents and orders, that name a boundary. */
final class OrderBounds {

    private static final String NO_SHEET = "IndexOutOfBoundsException if there is no such sheet";
    private static final String FIRST = "the exception that is documented first";

    private final Check check;

    private OrderBounds(Check check) {
        this.check = check;
    }

    static void run(Check check) {
        OrderBounds bounds = new OrderBounds(check);
        bounds.patents();
        bounds.patent();
        bounds.patentOf();
        bounds.asManyPatentsAsCallsAllow();
        bounds.prices();
        bounds.turns();
        bounds.order();
        bounds.orderRefused();
        bounds.make();
        bounds.earned();
    }

    private static CubefoldWorks of(int... squares) {
        return SheetBounds.of(squares);
    }

    private static CubefoldWorks patented(int... squares) {
        CubefoldWorks works = of(squares);
        works.patent(0);
        return works;
    }

    private void patents() {
        check.sentence(0, "A patent is on a sheet that is one, as it is then, and on all alike");
        int[][] alike = {{0, 1, 2, 8}, {7, 15, 23, 6}, {63, 62, 61, 55}, {56, 48, 40, 57}, {7, 6, 5, 15},
            {63, 55, 47, 62}, {56, 57, 58, 48}, {0, 8, 16, 1}, {28, 29, 30, 36}};
        for (int[] squares : alike) {
            check.due("alike to the one with the patent", 0, () -> {
                CubefoldWorks works = patented(0, 1, 2, 8);
                Build.sheet(works, squares);
                return works.patentOf(1);
            });
        }
        check.due("the sheet as it was", 0, () -> {
            CubefoldWorks works = patented(0, 1);
            works.set(0, 2, true);
            Build.sheet(works, 62, 63);
            return works.patentOf(1);
        });
        check.due("not as it became", Check.ELEMENT, () -> {
            CubefoldWorks works = patented(0, 1);
            works.set(0, 2, true);
            return works.patentOf(0);
        });
        check.due("as it was again", 0, () -> {
            CubefoldWorks works = patented(0, 1);
            works.set(0, 0, false);
            works.set(0, 9, true);
            return works.patentOf(0);
        });
        check.sentence(0, "none is on one that is alike to one that has one");
        for (int[] squares : alike) {
            check.refuses("alike to the one with the patent", Check.UNSUPPORTED, () -> {
                CubefoldWorks works = patented(0, 1, 2, 8);
                Build.sheet(works, squares);
                return works;
            }, works -> works.patent(1));
        }
        check.due("unlike by a square", 2, () -> {
            CubefoldWorks works = patented(0, 1, 2, 8);
            Build.sheet(works, 0, 1, 2, 9);
            return works.patent(1);
        });
    }

    private void patent() {
        check.sentence(35, NO_SHEET);
        check.due("the first of one", 1, () -> Build.one().patent(0));
        check.due("the last of eight", 2, () -> Build.full().patent(7));
        SheetBounds.noSuchSheet(check, CubefoldWorks::patent);
        check.sentence(35, "UnsupportedOperationException if it is not one, or one alike has a patent");
        check.refuses("no squares", Check.UNSUPPORTED, Build::full, works -> works.patent(Build.EMPTY_SHEET));
        check.refuses("not one", Check.UNSUPPORTED, Build::full, works -> works.patent(Build.APART_SHEET));
        check.refuses("over a corner alone", Check.UNSUPPORTED, () -> of(0, 9), works -> works.patent(0));
        check.refuses("it has one itself", Check.UNSUPPORTED, Build::full, works -> works.patent(Build.BARRED_SHEET));
        check.refuses("one alike has one", Check.UNSUPPORTED, Build::full, works -> works.patent(6));
        check.refuses("the first of two has one", Check.UNSUPPORTED, () -> {
            CubefoldWorks works = patented(0, 1);
            Build.sheet(works, 0, 1, 2);
            works.patent(1);
            return works;
        }, works -> works.patent(0));
        check.refuses("the second of two has one", Check.UNSUPPORTED, () -> {
            CubefoldWorks works = patented(0, 1);
            Build.sheet(works, 0, 1, 2);
            works.patent(1);
            return works;
        }, works -> works.patent(1));
        check.sentence(35, "Returns how many there are");
        check.due("one square", 1, () -> of(63).patent(0));
        check.due("all squares", 1, () -> Build.filled(of(), 0).patent(0));
    }

    private void patentOf() {
        check.sentence(36, "from 0 as they came");
        CubefoldWorks works = of(0, 1, 2);
        Build.sheet(works, 0);
        Build.sheet(works, 0, 1);
        for (int sheet : new int[] {1, 0, 2}) {
            works.patent(sheet);
        }
        check.due("the first", 0, () -> works.patentOf(1));
        check.due("the second", 1, () -> works.patentOf(0));
        check.due("the last", 2, () -> works.patentOf(2));
        check.sentence(36, NO_SHEET);
        check.due("the sixth of eight", 0, () -> Build.full().patentOf(Build.BARRED_SHEET));
        check.due("the last of eight", Check.ELEMENT, () -> Build.full().patentOf(7));
        SheetBounds.noSuchSheet(check, CubefoldWorks::patentOf);
        check.sentence(36, "NoSuchElementException if there is none");
        check.refuses("no patents at all", Check.ELEMENT, Build::one, none -> none.patentOf(0));
        check.refuses("no patents, no squares", Check.ELEMENT, () -> of(), none -> none.patentOf(0));
        check.refuses("no squares", Check.ELEMENT, Build::full, none -> none.patentOf(Build.EMPTY_SHEET));
        check.refuses("not one", Check.ELEMENT, Build::full, none -> none.patentOf(Build.APART_SHEET));
        check.refuses("none alike has one", Check.ELEMENT, Build::full, none -> none.patentOf(Build.FULL_SHEET));
        check.refuses("a piece of it has one", Check.ELEMENT, () -> {
            CubefoldWorks piece = patented(0, 1);
            piece.set(0, 63, true);
            return piece;
        }, none -> none.patentOf(0));
        check.sentence(36, FIRST);
        check.refuses("no sheet, no patents", Check.INDEX, Build::one, none -> none.patentOf(1));
        check.refuses("no sheet, no patents", Check.INDEX, Build::works, none -> none.patentOf(-1));
    }

    /** Each patent takes two calls, one to change the sheet and one to take it. */
    private void asManyPatentsAsCallsAllow() {
        check.sentence(0, "An object is used for at most 512 calls");
        List<Integer> changes = unlikeSheets(255);
        CubefoldWorks works = Build.works();
        Model model = new Model();
        works.addSheet();
        model.addSheet();
        int patents = 0;
        for (int square : changes) {
            boolean had = toggled(model, square);
            int due = ++patents;
            check.due("set " + square, had, () -> works.set(0, square, !had));
            check.due("patent " + due, due, () -> works.patent(0));
        }
        check.due("the 512th call", 254, () -> works.patentOf(0));
    }

    /** Squares which, added or taken one after the other, make sheets that are one and unlike to all before. */
    private static List<Integer> unlikeSheets(int many) {
        Model model = new Model();
        model.addSheet();
        List<Integer> changes = new ArrayList<>();
        for (int trial = 0; trial < 64 * many && changes.size() < many; trial++) {
            int square = 29 * trial % 64;
            toggled(model, square);
            if (Check.outcome(() -> model.patent(0)) instanceof Class) {
                toggled(model, square);
            } else {
                changes.add(square);
            }
        }
        return changes;
    }

    private static boolean toggled(Model model, int square) {
        boolean had = model.set(0, square, true);
        model.set(0, square, !had);
        return had;
    }

    private void prices() {
        check.sentence(0, "10 for each square, 1 for each side of the edge, as it is ordered, 50 more if it folds");
        check.due("one square", 14, () -> of(63).order(0, 0));
        check.due("all squares", 672, () -> Build.filled(of(), 0).order(0, 0));
        check.due("the longest edge", 448, () -> SheetBounds.everyOther().order(0, 0));
        check.due("not one", 28, () -> of(0, 63).order(0, 0));
        check.due("it folds", 124, () -> of(Build.CROSS).order(0, 0));
        check.due("it lacks a square to fold", 62, () -> of(1, 8, 9, 10, 17).order(0, 0));
        check.due("it has one too many to fold", 86, () -> of(1, 8, 9, 10, 17, 25, 33).order(0, 0));
        check.due("six squares that do not fold", 74, () -> of(0, 1, 2, 3, 4, 5).order(0, 0));
        check.due("as it was ordered", 124, () -> {
            CubefoldWorks works = of(Build.CROSS);
            works.order(0, 0);
            works.set(0, 25, false);
            return works.make();
        });
        check.due("as it was ordered, without squares now", 14, () -> {
            CubefoldWorks works = of(5);
            works.order(0, 0);
            works.set(0, 5, false);
            return works.make();
        });
        check.due("as it was ordered, barred now", 14, () -> {
            CubefoldWorks works = of(5);
            works.order(0, 0);
            works.patent(0);
            return works.make();
        });
    }

    /** Orders of 1, 2, .. squares apart, of price 14, 28, .., on these days; tells in which turn they are made. */
    private static String turnsOf(int... days) {
        CubefoldWorks works = of();
        for (int index = 0; index < days.length; index++) {
            works.set(0, index % 4 * 2 + index / 4 * 16, true);
            works.order(0, days[index]);
        }
        StringBuilder told = new StringBuilder();
        for (int many = 0; many < days.length; many++) {
            told.append(works.make() / 14).append(' ');
        }
        return told.toString();
    }

    private void turns() {
        check.sentence(0, "made by days, the earliest first, of like ones as they came");
        check.due("of one day", "1 2 3 4 5 ", () -> turnsOf(7, 7, 7, 7, 7));
        check.due("of days that grow", "1 2 3 4 5 ", () -> turnsOf(0, 1, 50, 98, 99));
        check.due("of days that shrink", "5 4 3 2 1 ", () -> turnsOf(99, 98, 50, 1, 0));
        check.due("of the first and the last day", "2 4 1 3 ", () -> turnsOf(99, 0, 99, 0));
        check.due("one between like ones", "3 1 2 4 ", () -> turnsOf(50, 50, 49, 50));
        check.due("one after like ones", "1 2 4 3 ", () -> turnsOf(50, 50, 51, 50));
        check.due("as days, not as texts", "2 1 3 ", () -> turnsOf(10, 9, 90));
        check.due("days of orders that were made count no more", "28 14", () -> {
            CubefoldWorks works = of(0);
            works.order(0, 50);
            works.order(0, 60);
            works.make();
            works.set(0, 2, true);
            works.order(0, 55);
            return works.make() + " " + works.make();
        });
        check.due("a later order for an earlier day than one that was made", "14 28", () -> {
            CubefoldWorks works = of(0);
            works.order(0, 50);
            works.order(0, 60);
            int first = works.make();
            works.set(0, 2, true);
            works.order(0, 40);
            return first + " " + works.make();
        });
    }

    private void order() {
        check.sentence(37, "day: 0 to 99");
        for (int day = 0; day < 100; day++) {
            int due = day;
            check.due("day " + due, 14, () -> of(0).order(0, due));
        }
        check.sentence(37, NO_SHEET);
        check.due("the first of one", 124, () -> Build.one().order(0, 0));
        check.due("the last of eight", 38, () -> madeOne().order(7, 0));
        SheetBounds.noSuchSheet(check, (works, sheet) -> works.order(sheet, 0));
        check.sentence(37, "IllegalArgumentException if a number is out of range");
        for (int wrong : new int[] {-1, 100, 101, 128, 256, -99, -100, Integer.MIN_VALUE, Integer.MAX_VALUE}) {
            check.refuses("day " + wrong, Check.ARGUMENT, Build::one, works -> works.order(0, wrong));
        }
    }

    private static CubefoldWorks madeOne() {
        CubefoldWorks works = Build.full();
        works.make();
        return works;
    }

    private void orderRefused() {
        check.sentence(37, "UnsupportedOperationException if it has no squares, or a patent bars it");
        check.refuses("no squares", Check.UNSUPPORTED, () -> of(), works -> works.order(0, 0));
        check.refuses("no squares any more", Check.UNSUPPORTED, () -> {
            CubefoldWorks works = of(5);
            works.order(0, 0);
            works.set(0, 5, false);
            return works;
        }, works -> works.order(0, 0));
        check.refuses("it has a patent itself", Check.UNSUPPORTED, () -> patented(0, 1), works -> works.order(0, 0));
        check.refuses("one alike has a patent", Check.UNSUPPORTED, () -> {
            CubefoldWorks works = patented(0, 1);
            Build.sheet(works, 55, 63);
            return works;
        }, works -> works.order(1, 99));
        check.refuses("the second of two patents bars it", Check.UNSUPPORTED, () -> {
            CubefoldWorks works = patented(0, 1);
            Build.sheet(works, 0, 1, 2);
            works.patent(1);
            return works;
        }, works -> works.order(1, 5));
        check.due("a patent on another one does not bar", 14, () -> {
            CubefoldWorks works = patented(0, 1);
            works.set(0, 1, false);
            return works.order(0, 0);
        });
        check.due("a patent on a piece does not bar", 42, () -> {
            CubefoldWorks works = patented(0);
            works.set(0, 2, true);
            works.set(0, 4, true);
            return works.order(0, 0);
        });
        check.sentence(37, "IllegalStateException if 20 orders wait");
        CubefoldWorks twenty = of(0);
        for (int many = 1; many <= 20; many++) {
            check.due("order " + many, 14, () -> twenty.order(0, 50));
        }
        check.due("one more", Check.STATE, () -> twenty.order(0, 50));
        check.refuses("the earliest day", Check.STATE, Build::full, works -> works.order(1, 0));
        check.refuses("the last day", Check.STATE, Build::full, works -> works.order(1, 99));
        check.due("one was made", 14, () -> madeOne().order(1, 99));
        check.refuses("one was made, and one more ordered", Check.STATE, () -> {
            CubefoldWorks works = madeOne();
            works.order(1, 0);
            return works;
        }, works -> works.order(1, 0));
        check.sentence(37, FIRST);
        for (int wrong : new int[] {-1, 100}) {
            check.refuses("no sheet, no day", Check.INDEX, Build::full, works -> works.order(8, wrong));
            check.refuses("no day, no squares", Check.ARGUMENT, () -> of(), works -> works.order(0, wrong));
            check.refuses("no day, barred", Check.ARGUMENT, () -> patented(0), works -> works.order(0, wrong));
            check.refuses("no day, 20 wait", Check.ARGUMENT, Build::full, works -> works.order(1, wrong));
        }
        check.refuses("no sheet, 20 wait", Check.INDEX, Build::full, works -> works.order(-1, 0));
        check.refuses("no squares, 20 wait", Check.UNSUPPORTED, Build::full, works -> works.order(0, 0));
        check.refuses("barred, 20 wait", Check.UNSUPPORTED, Build::full, works -> works.order(6, 0));
    }

    private void make() {
        check.sentence(38, "NoSuchElementException if none waits");
        check.refuses("none was ordered", Check.ELEMENT, Build::works, CubefoldWorks::make);
        check.refuses("all were made", Check.ELEMENT, () -> {
            CubefoldWorks works = of(0);
            works.order(0, 0);
            works.make();
            return works;
        }, CubefoldWorks::make);
        CubefoldWorks full = Build.full();
        for (int many = 1; many <= 20; many++) {
            check.due("make " + many + " of 20", true, () -> full.make() > 0);
        }
        check.due("no more", Check.ELEMENT, full::make);
        check.due("again and again", "14 14 14", () -> {
            CubefoldWorks works = of(0);
            StringBuilder told = new StringBuilder();
            for (int many = 0; many < 240; many++) {
                works.order(0, many % 100);
                int price = works.make();
                if (many % 100 == 39) {
                    told.append(told.length() == 0 ? "" : " ").append(price);
                }
            }
            return told.toString();
        });
    }

    private void earned() {
        check.sentence(39, "Returns what orders that were made brought");
        check.due("nothing at first", 0L, () -> Build.works().earned());
        check.due("nothing by orders that wait", 0L, () -> {
            CubefoldWorks works = of(0);
            works.order(0, 0);
            return works.earned();
        });
        check.due("the first that was made", 124L, () -> Build.full().earned());
        check.due("as much as calls allow", 220L * 672, () -> {
            CubefoldWorks works = Build.filled(of(), 0);
            for (int many = 0; many < 220; many++) {
                works.order(0, 0);
                works.make();
            }
            return works.earned();
        });
    }
}
