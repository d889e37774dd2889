/** The worked examples of the Terms, call by call; each one begins with a new object. */
final class ExamplesTest {

    private ExamplesTest() {
    }

    static void run(Check check) {
        bodies(check);
        sheets(check);
        dice(check);
    }

    /** It is broken over two lines in the document: kinds and all are calls on the same object. */
    private static void bodies(Check check) {
        check.sentence(0, "Examples: from addBody(0) = 0 to all(3) = 2");
        CubefoldWorks works = Build.works();
        check.due("addBody(0)", 0, () -> works.addBody(0));
        check.due("addCube(0, 1)", 2, () -> works.addCube(0, 1));
        check.due("addBody(20)", 1, () -> works.addBody(20));
        check.due("addCube(1, 24)", 2, () -> works.addCube(1, 24));
        check.due("areAlike(0, 1)", true, () -> works.areAlike(0, 1));
        check.due("skin(0)", 10, () -> works.skin(0));
        check.due("kinds()", 1, works::kinds);
        check.due("all(3)", 2, () -> works.all(3));
    }

    private static void sheets(Check check) {
        check.sentence(0, "Examples: from addSheet() = 0 to edge(0) = 14");
        CubefoldWorks works = Build.works();
        check.due("addSheet()", 0, works::addSheet);
        check.due("set(0, 1, true)", false, () -> works.set(0, 1, true));
        check.due("set(0, 8, true)", false, () -> works.set(0, 8, true));
        check.due("set(0, 9, true)", false, () -> works.set(0, 9, true));
        check.due("set(0, 10, true)", false, () -> works.set(0, 10, true));
        check.due("set(0, 17, true)", false, () -> works.set(0, 17, true));
        check.due("set(0, 25, true)", false, () -> works.set(0, 25, true));
        check.due("folds(0)", true, () -> works.folds(0));
        check.due("opposite(0, 9)", 25, () -> works.opposite(0, 9));
        check.due("edge(0)", 14, () -> works.edge(0));
    }

    private static void dice(Check check) {
        check.sentence(0, "Examples: from roll('e') = 3 to below() = 6");
        CubefoldWorks works = Build.works();
        check.due("roll('e')", 3, () -> works.roll('e'));
        check.due("onTop()", 4, works::onTop);
        check.due("rolls(0, 6)", 1, () -> works.rolls(0, 6));
        check.due("put(9)", 1, () -> works.put(9));
        check.due("below()", 6, works::below);
    }
}
