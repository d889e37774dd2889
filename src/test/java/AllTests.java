/** Runs every test of the project; ends with exit code 1 if one fails. */
public final class AllTests {

    private AllTests() {
    }

    public static void main(String[] arguments) {
        Check check = new Check();
        check.part("ExamplesTest", ExamplesTest::run);
        check.part("FiguresTest", FiguresTest::run);
        check.part("BodiesTest", BodiesTest::run);
        check.part("SheetsTest", SheetsTest::run);
        check.part("CubesTest", CubesTest::run);
        check.part("BoardsTest", BoardsTest::run);
        check.part("DiceTest", DiceTest::run);
        check.part("OrdersTest", OrdersTest::run);
        check.part("BodyBounds", BodyBounds::run);
        check.part("SheetBounds", SheetBounds::run);
        check.part("FoldingBounds", FoldingBounds::run);
        check.part("BoardBounds", BoardBounds::run);
        check.part("DieBounds", DieBounds::run);
        check.part("OrderBounds", OrderBounds::run);
        check.part("FigureBounds", FigureBounds::run);
        check.part("FaceTest", FaceTest::run);
        check.part("ModelTest", ModelTest::run);
        check.part("ReadmeTest", ReadmeTest::run);
        check.end();
    }
}
