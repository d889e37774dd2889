/** Promises 30 to 34. */
final class DiceTest {

    private static final int[] WRONG = {-1, 64, Integer.MIN_VALUE, Integer.MAX_VALUE};
    private static final String WAYS = "nsew";

    /** What is below after one roll each of these ways. */
    private static final int[] FIRST_ROLLS = {2, 5, 3, 4};

    private DiceTest() {
    }

    static void run(Check check) {
        put(check);
        roll(check);
        belowAndOnTop(check);
        rolls(check);
        rollsByTrying(check);
    }

    private static void put(Check check) {
        check.promise(30);
        CubefoldWorks works = Build.works();
        check.due("from the first square", 0, () -> works.put(63));
        check.due("from the last square", 63, () -> works.put(9));
        works.roll('e');
        works.roll('s');
        check.due("from where it rolled", 18, () -> works.put(18));
        check.due("as at first below", 6, works::below);
        check.due("as at first to the lower row", 2, () -> works.roll('n'));
        works.put(18);
        check.due("as at first to the higher column", 3, () -> works.roll('e'));
        for (int wrong : WRONG) {
            check.refused("put(" + wrong + ")", IllegalArgumentException.class, works, () -> works.put(wrong));
        }
    }

    private static void roll(Check check) {
        check.promise(31);
        CubefoldWorks works = Build.works();
        int[] next = {19, 35, 28, 26};
        for (int index = 0; index < 4; index++) {
            char way = WAYS.charAt(index);
            int due = FIRST_ROLLS[index];
            int square = next[index];
            works.put(27);
            check.due("roll " + way, due, () -> works.roll(way));
            check.due("it is on the next square", square, () -> works.put(27));
        }
        for (char way : new char[] {0, 'N', 'x', 'E', 'S', 'W', ' ', 'a', 'z', 'm', 'o', 65535, 233}) {
            check.refused("no way " + (int) way, IllegalArgumentException.class, works, () -> works.roll(way));
        }
        for (int square = 0; square < 64; square++) {
            rollFrom(check, square);
        }
        roundAndRound(check);
    }

    private static void rollFrom(Check check, int square) {
        CubefoldWorks works = Build.works();
        for (int index = 0; index < 4; index++) {
            works.put(square);
            char way = WAYS.charAt(index);
            boolean leaves = index == 0 && square < 8 || index == 1 && square > 55
                    || index == 2 && square % 8 == 7 || index == 3 && square % 8 == 0;
            if (leaves) {
                check.refused("off the paper " + way, UnsupportedOperationException.class, works,
                        () -> works.roll(way));
            } else {
                check.due("on the paper " + way, FIRST_ROLLS[index], () -> works.roll(way));
            }
        }
    }

    private static void roundAndRound(Check check) {
        CubefoldWorks works = Build.works();
        int[] east = {3, 1, 4, 6, 3, 1, 4};
        for (int due : east) {
            check.due("roll to the east", due, () -> works.roll('e'));
        }
        int[] south = {5, 3, 2, 4, 5, 3, 2};
        for (int due : south) {
            check.due("roll to the south", due, () -> works.roll('s'));
        }
        check.due("it came to the last square", 63, () -> works.put(0));
        works.roll('e');
        works.roll('s');
        works.roll('w');
        check.due("round a corner another face is below", 3, () -> works.roll('n'));
    }

    private static void belowAndOnTop(Check check) {
        CubefoldWorks works = Build.works();
        check.promise(32);
        check.due("below at first", 6, works::below);
        check.promise(33);
        check.due("on top at first", 1, works::onTop);
        works.put(36);
        String rolls = "neswwnesenwssse";
        for (char way : rolls.toCharArray()) {
            int due = works.roll(way);
            check.promise(32);
            check.due("below after " + way, due, works::below);
            check.promise(33);
            check.due("on top after " + way, 7 - due, works::onTop);
        }
    }

    private static void rolls(Check check) {
        check.promise(34);
        CubefoldWorks works = Build.works();
        for (int wrong : WRONG) {
            check.refused("no such square", IllegalArgumentException.class, works, () -> works.rolls(wrong, 1));
        }
        for (int wrong : new int[] {0, 7, -1, Integer.MIN_VALUE, Integer.MAX_VALUE}) {
            check.refused("no such number", IllegalArgumentException.class, works, () -> works.rolls(0, wrong));
        }
        check.due("it lies so", 0, () -> works.rolls(0, 6));
        check.due("one roll to the east", 1, () -> works.rolls(1, 3));
        check.due("one roll to the south", 1, () -> works.rolls(8, 5));
        check.due("on top to below, at the corner", 6, () -> works.rolls(0, 1));
        works.roll('e');
        check.due("back to the west", 1, () -> works.rolls(0, 6));
        check.due("it did not roll", 3, works::below);
    }

    /** The least number of rolls to all squares and numbers, found another way, from some places. */
    private static void rollsByTrying(Check check) {
        for (String way : new String[] {"", "e", "essee", "sssssss", "sesesesesesewwn"}) {
            CubefoldWorks works = Build.works();
            Model model = new Model();
            for (char sign : way.toCharArray()) {
                works.roll(sign);
                model.roll(sign);
            }
            for (int square = 0; square < 64; square++) {
                for (int number = 1; number <= 6; number++) {
                    int to = square;
                    int face = number;
                    check.due("rolls(" + to + ", " + face + ") after " + way, model.rolls(to, face),
                            () -> works.rolls(to, face));
                }
            }
        }
    }
}
