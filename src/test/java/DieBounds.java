import java.util.Set;
import java.util.TreeSet;

/** The sentences of promises 30 to 34, and of the Terms on dice, that name a boundary. */
final class DieBounds {

    private static final String OUT_OF_RANGE = "IllegalArgumentException if a number is out of range";

    private final Check check;

    private DieBounds(Check check) {
        this.check = check;
    }

    static void run(Check check) {
        DieBounds bounds = new DieBounds(check);
        bounds.die();
        bounds.put();
        bounds.ways();
        bounds.leaving();
        bounds.faces();
        bounds.rolls();
        bounds.rollsOutOfRange();
    }

    private static CubefoldWorks at(int square) {
        CubefoldWorks works = Build.works();
        works.put(square);
        return works;
    }

    private static CubefoldWorks rolled(int square, String ways) {
        CubefoldWorks works = at(square);
        for (char way : ways.toCharArray()) {
            works.roll(way);
        }
        return works;
    }

    private void die() {
        check.sentence(0, "with 6 below, 1 on top, 2 to the lower row, 3 to the higher column, opposite 7 together");
        check.due("below", 6, () -> Build.works().below());
        check.due("on top", 1, () -> Build.works().onTop());
        check.due("to the lower row", 2, () -> at(27).roll('n'));
        check.due("to the higher row", 5, () -> at(27).roll('s'));
        check.due("to the higher column", 3, () -> at(27).roll('e'));
        check.due("to the lower column", 4, () -> at(27).roll('w'));
        check.sentence(0, "'n' the lower row, 's' the higher row, 'e' the higher column, 'w' the lower column");
        check.due("n", 19, () -> rolled(27, "n").put(0));
        check.due("s", 35, () -> rolled(27, "s").put(0));
        check.due("e", 28, () -> rolled(27, "e").put(0));
        check.due("w", 26, () -> rolled(27, "w").put(0));
    }

    private void put() {
        check.sentence(30, "square: 0 to 63");
        for (int place = 0; place < 64; place++) {
            int square = place;
            check.due("it was put on " + square, square, () -> at(square).put(0));
            check.due("it was before", 63 - square, () -> at(63 - square).put(square));
        }
        check.sentence(30, OUT_OF_RANGE);
        for (int wrong : Build.NO_PLACES) {
            check.refuses("put(" + wrong + ")", Check.ARGUMENT, Build::works, works -> works.put(wrong));
            check.refuses("rolled, put(" + wrong + ")", Check.ARGUMENT, Build::full, works -> works.put(wrong));
        }
        check.sentence(30, "Puts the die onto a square, as at first");
        String tale = Tale.DIE.of(at(35));
        for (String ways : new String[] {"", "e", "s", "n", "w", "es", "senw", "wwnnes"}) {
            check.due("put back after " + ways, tale, () -> {
                CubefoldWorks works = rolled(27, ways);
                works.put(35);
                return Tale.DIE.of(works);
            });
        }
        check.due("put where it lies", "36 6 36", () -> {
            CubefoldWorks works = rolled(27, "se");
            return works.put(36) + " " + works.below() + " " + works.put(36);
        });
    }

    private void ways() {
        check.sentence(31, "way: 'n', 's', 'e' or 'w'");
        check.due("the four ways", "2 5 3 4", () -> at(9).roll('n') + " " + at(9).roll('s') + " " + at(9).roll('e')
                + " " + at(9).roll('w'));
        check.sentence(31, "IllegalArgumentException if there is no such way");
        int refused = 0;
        for (int code = 0; code <= Character.MAX_VALUE; code++) {
            char way = (char) code;
            refused += Check.outcome(() -> at(27).roll(way)) == Check.ARGUMENT ? 1 : 0;
        }
        int found = refused;
        check.due("all signs but four", 65536 - 4, () -> found);
        char[] wrong = {0, 'N', 'S', 'E', 'W', 'm', 'o', 'r', 't', 'd', 'f', 'v', 'x', ' ', 256 + 'n', 256 + 's',
            256 + 'e', 256 + 'w', 65535, 65280 + 'n'};
        for (char way : wrong) {
            check.refuses("no way " + (int) way, Check.ARGUMENT, () -> rolled(27, "es"), works -> works.roll(way));
        }
        check.sentence(31, "the exception that is documented first");
        for (int corner : new int[] {0, 7, 56, 63}) {
            check.refuses("no way, in a corner", Check.ARGUMENT, () -> at(corner), works -> works.roll('x'));
        }
    }

    private void leaving() {
        check.sentence(31, "UnsupportedOperationException if it would leave the paper");
        for (int along = 0; along < 8; along++) {
            refusesToLeave(along, 'n');
            refusesToLeave(56 + along, 's');
            refusesToLeave(8 * along + 7, 'e');
            refusesToLeave(8 * along, 'w');
            int inner = along;
            check.due("to the first row", 2, () -> at(8 + inner).roll('n'));
            check.due("to the last row", 5, () -> at(48 + inner).roll('s'));
            check.due("to the last column", 3, () -> at(8 * inner + 6).roll('e'));
            check.due("to the first column", 4, () -> at(8 * inner + 1).roll('w'));
        }
        check.refuses("after seven rolls to the last column", Check.UNSUPPORTED, () -> rolled(0, "eeeeeee"),
                works -> works.roll('e'));
        check.refuses("after seven rolls to the last row", Check.UNSUPPORTED, () -> rolled(0, "sssssss"),
                works -> works.roll('s'));
        check.refuses("from the last square", Check.UNSUPPORTED, Build::full, works -> works.roll('s'));
        check.due("the paper has room for seven", 55, () -> rolled(7, "ssssss").put(0));
    }

    private void refusesToLeave(int square, char way) {
        check.refuses(way + " from " + square, Check.UNSUPPORTED, () -> at(square), works -> works.roll(way));
    }

    private void faces() {
        Set<Integer> below = new TreeSet<>();
        Set<Integer> onTop = new TreeSet<>();
        for (String ways : new String[] {"", "n", "s", "e", "w", "nn", "ss", "ee", "ww"}) {
            below.add(rolled(27, ways).below());
            onTop.add(rolled(27, ways).onTop());
        }
        check.sentence(32, "Returns 1 to 6");
        check.due("all faces come below, and no others", "[1, 2, 3, 4, 5, 6]", below::toString);
        check.sentence(33, "Returns 1 to 6");
        check.due("all faces come on top, and no others", "[1, 2, 3, 4, 5, 6]", onTop::toString);
        for (String ways : new String[] {"", "n", "s", "e", "w", "nn", "nw", "se", "wws"}) {
            check.sentence(32, "Returns 1 to 6");
            check.due("opposite ones are 7 together", 7, () -> rolled(27, ways).below() + rolled(27, ways).onTop());
        }
        check.sentence(32, "Returns 1 to 6");
        check.due("four rolls one way bring it back", 6, () -> rolled(0, "eeee").below());
        check.sentence(33, "Returns 1 to 6");
        check.due("two rolls one way turn it over", 6, () -> rolled(0, "ss").onTop());
    }

    private void rolls() {
        check.sentence(34, "with how many rolls at least the die comes to a square with a number below");
        check.due("it lies so", 0, () -> Build.works().rolls(0, 6));
        check.due("it lies so in the last corner", 0, () -> at(63).rolls(63, 6));
        check.due("it lies there with another number", 4, () -> at(27).rolls(27, 3));
        check.due("it lies there with 1 below", 6, () -> at(27).rolls(27, 1));
        check.due("one roll, from a corner", "1 1", () -> at(0).rolls(1, 3) + " " + at(0).rolls(8, 5));
        check.due("one roll, from the last corner", "1 1", () -> at(63).rolls(62, 4) + " " + at(63).rolls(55, 2));
        check.due("next to it, with the face that was below", 3, () -> at(27).rolls(28, 6));
        check.due("not over the rim of the paper", true, () -> at(7).rolls(8, 3) >= 8);
        check.due("from corner to corner", 14, () -> at(0).rolls(63, 6));
        CubefoldWorks works = rolled(0, "e");
        check.due("back", 1, () -> works.rolls(0, 6));
        check.due("it lies with 3 below", 0, () -> works.rolls(1, 3));
        check.leavesNoTrace("rolls(63, 6)", Build::full, full -> full.rolls(0, 6));
        Model model = new Model();
        model.put(7);
        CubefoldWorks corner = at(7);
        for (int square = 0; square < 64; square++) {
            for (int number = 1; number <= 6; number++) {
                int to = square;
                int face = number;
                check.due("from 7 to " + to + ", " + face, model.rolls(to, face), () -> corner.rolls(to, face));
            }
        }
    }

    private void rollsOutOfRange() {
        check.sentence(34, "square: 0 to 63");
        check.due("to the first square", 14, () -> at(63).rolls(0, 6));
        check.due("to the last square", 14, () -> at(0).rolls(63, 6));
        check.sentence(34, "number: 1 to 6");
        check.due("1", 2, () -> at(27).rolls(29, 1));
        check.due("6", 4, () -> at(27).rolls(31, 6));
        check.sentence(34, OUT_OF_RANGE);
        for (int wrong : Build.NO_PLACES) {
            check.refuses("square " + wrong, Check.ARGUMENT, Build::full, works -> works.rolls(wrong, 1));
        }
        for (int wrong : new int[] {0, 7, -1, -6, 256, 257, Integer.MIN_VALUE, Integer.MAX_VALUE}) {
            check.refuses("number " + wrong, Check.ARGUMENT, Build::full, works -> works.rolls(0, wrong));
        }
        check.refuses("neither", Check.ARGUMENT, Build::full, works -> works.rolls(64, 7));
    }
}
