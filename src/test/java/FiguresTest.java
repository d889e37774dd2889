/** Promises 1 and 40 to 43. */
final class FiguresTest {

    private FiguresTest() {
    }

    static void run(Check check) {
        newObject(check);
        checksum(check);
        usedShare(check);
        meanSkin(check);
        isSound(check);
    }

    private static void newObject(Check check) {
        check.promise(1);
        CubefoldWorks works = Build.works();
        check.due("no bodies", IndexOutOfBoundsException.class, () -> works.cubes(0));
        check.due("no sheets", IndexOutOfBoundsException.class, () -> works.squares(0));
        check.due("no boards", IndexOutOfBoundsException.class, () -> works.free(0));
        check.due("the die is as at first", 6, works::below);
        check.due("the die is on the square 0", 0, () -> works.put(1));
        CubefoldWorks other = Build.works();
        check.due("another object has its own", 0, () -> other.put(2));
    }

    private static void checksum(Check check) {
        check.promise(40);
        CubefoldWorks works = Build.works();
        check.due("a new object", 31L * (31 * 7) + 6, works::checksum);
        works.put(5);
        works.roll('e');
        check.due("the die", 31L * (31 * 7 + 6) + 3, works::checksum);
        works.put(0);
        Build.body(works, 5, 4, 1);
        works.addBody(63);
        Build.sheet(works, 60, 3);
        Build.sheet(works, 9, 2);
        works.addBoard();
        works.addBoard();
        works.lay(1, 1);
        long sum = 7;
        for (int next : new int[] {1, 4, 5, 63, 3, 60, 2, 9, 64, 62, 0, 6}) {
            sum = 31 * sum + next;
        }
        long due = sum;
        check.due("all in their turn", due, works::checksum);
        works.addSheet();
        check.due("a sheet without squares adds nothing", due, works::checksum);
        Build.fill(works, 2);
        long wrapped = 7;
        for (int next : new int[] {1, 4, 5, 63, 3, 60, 2, 9}) {
            wrapped = 31 * wrapped + next;
        }
        for (int square = 0; square < 64; square++) {
            wrapped = 31 * wrapped + square;
        }
        for (int next : new int[] {64, 62, 0, 6}) {
            wrapped = 31 * wrapped + next;
        }
        long around = wrapped;
        check.due("it wraps round", around, works::checksum);
    }

    private static void usedShare(Check check) {
        check.promise(41);
        CubefoldWorks works = Build.works();
        check.refused("no boards", ArithmeticException.class, works, works::usedShare);
        works.addBoard();
        check.due("nothing used", 0.0f, works::usedShare);
        int sheet = Build.sheet(works, 0, 1, 2);
        works.lay(sheet, 0);
        check.due("3 of 64", 3.0f / 64.0f, works::usedShare);
        works.addBoard();
        works.addBoard();
        check.due("3 of 192", 3.0f / 192.0f, works::usedShare);
        works.lay(sheet, 2);
        works.set(sheet, 2, false);
        works.lay(sheet, 1);
        check.due("8 of 192, as floats", 8.0f / 192.0f, works::usedShare);
        Build.fill(works, sheet);
        works.addBoard();
        works.lay(sheet, 3);
        check.due("72 of 256", 72.0f / 256.0f, works::usedShare);
    }

    private static void meanSkin(Check check) {
        check.promise(42);
        CubefoldWorks works = Build.works();
        check.refused("no bodies", ArithmeticException.class, works, works::meanSkin);
        works.addBody(0);
        check.due("one cube", 6.0, works::meanSkin);
        Build.body(works, 3, 7);
        check.due("a cube and two", 8.0, works::meanSkin);
        Build.body(works, 3, 7, 11);
        check.due("a third body", 10.0, works::meanSkin);
        works.takeCube(2, 11);
        check.due("a mean that is no whole number", 26.0 / 3.0, works::meanSkin);
    }

    private static void isSound(Check check) {
        check.promise(43);
        CubefoldWorks works = Build.works();
        check.due("at first", true, works::isSound);
        Build.body(works, 0, 1, 2, 3, 7, 6, 5, 4);
        works.addBody(63);
        Build.sheet(works, 0, 63);
        works.addSheet();
        works.addBoard();
        works.lay(0, 0);
        works.cut(0);
        works.order(0, 99);
        works.order(0, 0);
        works.order(0, 50);
        works.put(63);
        check.due("with all kinds of things", true, works::isSound);
        works.make();
        works.roll('n');
        works.sharpen();
        check.due("after some work", true, works::isSound);
    }
}
