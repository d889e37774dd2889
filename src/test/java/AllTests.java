/** Runs every test of the project; ends with exit code 1 if one fails. */
public final class AllTests {

    private AllTests() {
    }

    public static void main(String[] arguments) {
        Check check = new Check();
        FiguresTest.run(check);
        BodiesTest.run(check);
        SheetsTest.run(check);
        CubesTest.run(check);
        BoardsTest.run(check);
        DiceTest.run(check);
        OrdersTest.run(check);
        BodyBounds.run(check);
        SheetBounds.run(check);
        FoldingBounds.run(check);
        BoardBounds.run(check);
        DieBounds.run(check);
        OrderBounds.run(check);
        FigureBounds.run(check);
        FaceTest.run(check);
        ModelTest.run(check);
        check.end();
    }
}
