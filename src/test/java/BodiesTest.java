import java.util.ArrayList;
import java.util.Arrays;
import java.util.HashSet;
import java.util.List;
import java.util.NoSuchElementException;
import java.util.Set;

/** Promises 2 to 10. */
final class BodiesTest {

    private static final int[] EDGE_CELLS = {0, 63};
    private static final int[] WRONG = {-1, 64, Integer.MIN_VALUE, Integer.MAX_VALUE};
    private static final int[] STRAIGHT_8_ROUND = {0, 1, 2, 3, 7, 6, 5, 4};

    private BodiesTest() {
    }

    static void run(Check check) {
        addBody(check);
        addCube(check);
        takeCube(check);
        cubesAndSkin(check);
        areAlike(check);
        areMirrored(check);
        kinds(check);
        all(check);
    }

    private static void addBody(Check check) {
        check.promise(2);
        CubefoldWorks works = Build.works();
        for (int wrong : WRONG) {
            check.refused("addBody(" + wrong + ")", IllegalArgumentException.class, works, () -> works.addBody(wrong));
        }
        for (int number = 0; number < 8; number++) {
            int due = number;
            check.due("addBody", due, () -> works.addBody(due % 2 == 0 ? 63 : 0));
            check.due("a new body has one cube", 1, () -> works.cubes(due));
            int cell = EDGE_CELLS[1 - due % 2];
            check.due("its cube is where it was put", UnsupportedOperationException.class,
                    () -> works.addCube(due, cell));
        }
        check.refused("a ninth body", IllegalStateException.class, works, () -> works.addBody(5));
        check.refused("a ninth body out of range", IllegalArgumentException.class, works, () -> works.addBody(64));
    }

    private static void addCube(Check check) {
        check.promise(3);
        CubefoldWorks works = Build.works();
        check.refused("no body", IndexOutOfBoundsException.class, works, () -> works.addCube(0, 0));
        int body = works.addBody(21);
        for (int wrong : WRONG) {
            check.refused("no such body", IndexOutOfBoundsException.class, works, () -> works.addCube(wrong, 22));
            check.refused("no such body or cell", IndexOutOfBoundsException.class, works,
                    () -> works.addCube(wrong, 64));
            check.refused("no such cell", IllegalArgumentException.class, works, () -> works.addCube(body, wrong));
        }
        check.refused("body 1 of 1", IndexOutOfBoundsException.class, works, () -> works.addCube(1, 22));
        check.refused("a cube is there", UnsupportedOperationException.class, works, () -> works.addCube(body, 21));
        for (int cell : new int[] {0, 23, 26, 16, 38, 63, 53}) {
            check.refused("none is next to " + cell, UnsupportedOperationException.class, works,
                    () -> works.addCube(body, cell));
        }
        int due = 2;
        for (int cell : new int[] {20, 22, 17, 25, 5, 37}) {
            int many = due++;
            check.due("addCube(0, " + cell + ")", many, () -> works.addCube(body, cell));
        }
        neighboursDoNotWrap(check);
        check.due("the eighth", 8, () -> works.addCube(body, 23));
        check.refused("a ninth", IllegalStateException.class, works, () -> works.addCube(body, 19));
        check.refused("a ninth where one is", UnsupportedOperationException.class, works,
                () -> works.addCube(body, 21));
        check.refused("a ninth apart", UnsupportedOperationException.class, works, () -> works.addCube(body, 63));
        check.refused("a ninth out of range", IllegalArgumentException.class, works, () -> works.addCube(body, 64));
    }

    private static void neighboursDoNotWrap(Check check) {
        check.sentence(0, "Cells are next to each other if one of x, y, z differs by 1, and no other one differs");
        for (int cell = 0; cell < 64; cell++) {
            for (int other = 0; other < 64; other++) {
                int from = cell;
                int to = other;
                CubefoldWorks works = Build.works();
                works.addBody(cell);
                Object want = distance(cell, other) == 1 ? 2 : UnsupportedOperationException.class;
                check.due("addCube of " + to + " to " + from, want, () -> works.addCube(0, to));
            }
        }
        check.promise(3);
    }

    private static int distance(int cell, int other) {
        return Math.abs(cell % 4 - other % 4) + Math.abs(cell / 4 % 4 - other / 4 % 4)
                + Math.abs(cell / 16 - other / 16);
    }

    private static void takeCube(Check check) {
        check.promise(4);
        CubefoldWorks works = Build.works();
        check.refused("no body", IndexOutOfBoundsException.class, works, () -> works.takeCube(0, 0));
        int body = Build.body(works, 0, 1, 2);
        for (int wrong : WRONG) {
            check.refused("no such body", IndexOutOfBoundsException.class, works, () -> works.takeCube(wrong, 64));
            check.refused("no such cell", IllegalArgumentException.class, works, () -> works.takeCube(body, wrong));
        }
        check.refused("no cube there", NoSuchElementException.class, works, () -> works.takeCube(body, 3));
        check.refused("it would fall apart", UnsupportedOperationException.class, works,
                () -> works.takeCube(body, 1));
        check.due("takeCube(0, 0)", 2, () -> works.takeCube(body, 0));
        check.due("the cube is gone", NoSuchElementException.class, () -> works.takeCube(body, 0));
        check.due("takeCube(0, 2)", 1, () -> works.takeCube(body, 2));
        check.refused("the last cube", UnsupportedOperationException.class, works, () -> works.takeCube(body, 1));
        check.refused("not the last cube", NoSuchElementException.class, works, () -> works.takeCube(body, 0));
        int ring = Build.body(works, 0, 1, 2, 6, 10, 9, 8, 4);
        check.due("a ring stays one", 7, () -> works.takeCube(ring, 1));
        check.refused("an open ring", UnsupportedOperationException.class, works, () -> works.takeCube(ring, 9));
        check.due("it can grow again", 8, () -> works.addCube(ring, 1));
    }

    private static void cubesAndSkin(Check check) {
        CubefoldWorks works = Build.works();
        check.promise(5);
        check.refused("cubes of none", IndexOutOfBoundsException.class, works, () -> works.cubes(0));
        check.promise(6);
        check.refused("skin of none", IndexOutOfBoundsException.class, works, () -> works.skin(0));
        int line = works.addBody(0);
        int[] skins = {6, 10, 14, 18, 22, 24, 26, 28};
        for (int many = 1; many <= 8; many++) {
            int due = many;
            if (many > 1) {
                works.addCube(line, STRAIGHT_8_ROUND[many - 1]);
            }
            check.promise(5);
            check.due("cubes", due, () -> works.cubes(line));
            check.promise(6);
            check.due("skin of " + due, skins[due - 1], () -> works.skin(line));
        }
        int block = Build.body(works, 42, 43, 46, 47, 58, 59, 62, 63);
        check.due("skin of 2 by 2 by 2 in the corner", 24, () -> works.skin(block));
        int wrapped = Build.body(works, 3, 2, 6, 5, 4);
        check.due("skin beside the rims", 22, () -> works.skin(wrapped));
        for (int wrong : WRONG) {
            check.promise(5);
            check.refused("cubes", IndexOutOfBoundsException.class, works, () -> works.cubes(wrong));
            check.promise(6);
            check.refused("skin", IndexOutOfBoundsException.class, works, () -> works.skin(wrong));
        }
        check.promise(5);
        check.refused("cubes past the last", IndexOutOfBoundsException.class, works, () -> works.cubes(3));
        check.promise(6);
        check.refused("skin past the last", IndexOutOfBoundsException.class, works, () -> works.skin(3));
    }

    /** Five cubes that no turn and no mirror leaves as they are, each next to one before it. */
    private static final int[][] UNEVEN = {{0, 0, 0}, {1, 0, 0}, {2, 0, 0}, {1, 1, 0}, {0, 0, 1}};

    /** The uneven body in each of the 24 turns (1), or turns with a mirror (-1), moved into the grid's corner. */
    private static List<int[]> unevenBodies(int determinant) {
        List<int[]> found = new ArrayList<>();
        for (int[][] matrix : Model.turns(determinant)) {
            int[] cells = new int[UNEVEN.length];
            int step = 1;
            for (int[] row : matrix) {
                int least = 3;
                for (int[] cube : UNEVEN) {
                    least = Math.min(least, along(row, cube));
                }
                for (int index = 0; index < cells.length; index++) {
                    cells[index] += step * (along(row, UNEVEN[index]) - least);
                }
                step *= 4;
            }
            found.add(cells);
        }
        return found;
    }

    private static int along(int[] row, int[] cube) {
        return row[0] * cube[0] + row[1] * cube[1] + row[2] * cube[2];
    }

    private static void unevenInAllTurns(Check check) {
        Set<String> seen = new HashSet<>();
        for (int determinant : new int[] {1, -1}) {
            boolean turned = determinant == 1;
            for (int[] cells : unevenBodies(determinant)) {
                CubefoldWorks works = Build.works();
                Build.body(works, 0, 1, 2, 5, 16);
                Build.body(works, cells);
                Build.body(works, 2, 1, 0, 5, 18);
                int[] sorted = cells.clone();
                Arrays.sort(sorted);
                seen.add(Arrays.toString(sorted));
                check.promise(7);
                check.due("turned, it is alike", turned, () -> works.areAlike(0, 1));
                check.due("and the other way round", turned, () -> works.areAlike(1, 0));
                check.due("the mirrored one is alike to the mirrored", !turned, () -> works.areAlike(1, 2));
                check.promise(8);
                check.due("mirrored, it is mirrored", !turned, () -> works.areMirrored(0, 1));
                check.due("and the other way round", !turned, () -> works.areMirrored(1, 0));
                check.due("the mirrored one is mirrored to the turned", turned, () -> works.areMirrored(1, 2));
                check.promise(9);
                check.due("kinds of the three", 2, works::kinds);
            }
        }
        check.promise(7);
        check.due("all of them lie differently", 48, seen::size);
    }

    private static void areAlike(Check check) {
        unevenInAllTurns(check);
        check.promise(7);
        CubefoldWorks works = Build.works();
        check.refused("areAlike of none", IndexOutOfBoundsException.class, works, () -> works.areAlike(0, 0));
        Build.body(works, 0, 1);
        Build.body(works, 20, 24);
        Build.body(works, 47, 63);
        Build.body(works, 5, 6, 7);
        Build.body(works, 5, 6, 10);
        check.due("lines of two by x and y", true, () -> works.areAlike(0, 1));
        check.due("lines of two by y and z", true, () -> works.areAlike(1, 2));
        check.due("a body and itself", true, () -> works.areAlike(3, 3));
        check.due("a line and an angle", false, () -> works.areAlike(3, 4));
        check.due("two and three", false, () -> works.areAlike(0, 3));
        for (int wrong : new int[] {-1, 5, 8, Integer.MIN_VALUE, Integer.MAX_VALUE}) {
            check.refused("areAlike", IndexOutOfBoundsException.class, works, () -> works.areAlike(wrong, 0));
            check.refused("areAlike", IndexOutOfBoundsException.class, works, () -> works.areAlike(0, wrong));
        }
    }

    private static void areMirrored(Check check) {
        check.promise(8);
        CubefoldWorks works = Build.works();
        check.refused("areMirrored of none", IndexOutOfBoundsException.class, works, () -> works.areMirrored(0, 0));
        Build.body(works, 0, 1, 5, 21);
        Build.body(works, 1, 0, 4, 20);
        Build.body(works, 0, 1, 2);
        Build.body(works, 63, 59, 55);
        Build.body(works, 0, 1, 5);
        check.due("a screw and its mirror", true, () -> works.areMirrored(0, 1));
        check.due("the mirror and the screw", true, () -> works.areMirrored(1, 0));
        check.due("a screw and its mirror are not alike", false, () -> works.areAlike(0, 1));
        check.due("a screw and itself", false, () -> works.areMirrored(0, 0));
        check.due("a line and itself", true, () -> works.areMirrored(2, 2));
        check.due("two lines", true, () -> works.areMirrored(2, 3));
        check.due("two lines are alike too", true, () -> works.areAlike(2, 3));
        check.due("a line and an angle", false, () -> works.areMirrored(2, 4));
        for (int wrong : new int[] {-1, 5, 8, Integer.MIN_VALUE, Integer.MAX_VALUE}) {
            check.refused("areMirrored", IndexOutOfBoundsException.class, works, () -> works.areMirrored(wrong, 0));
            check.refused("areMirrored", IndexOutOfBoundsException.class, works, () -> works.areMirrored(0, wrong));
        }
    }

    private static void kinds(Check check) {
        check.promise(9);
        CubefoldWorks works = Build.works();
        check.due("kinds of none", 0, works::kinds);
        Build.body(works, 0, 1, 5, 21);
        check.due("kinds of one", 1, works::kinds);
        Build.body(works, 1, 0, 4, 20);
        check.due("a mirrored one is another kind", 2, works::kinds);
        Build.body(works, 42, 43, 47, 63);
        check.due("a moved one is no other kind", 2, works::kinds);
        Build.body(works, 7);
        Build.body(works, 63);
        check.due("single cubes are one kind", 3, works::kinds);
        works.addCube(4, 62);
        check.due("a grown one is another kind", 4, works::kinds);
        works.takeCube(4, 63);
        check.due("and none again", 3, works::kinds);
    }

    private static void all(Check check) {
        check.promise(10);
        CubefoldWorks works = Build.works();
        for (int wrong : new int[] {0, 5, -1, Integer.MIN_VALUE, Integer.MAX_VALUE}) {
            check.refused("all(" + wrong + ")", IllegalArgumentException.class, works, () -> works.all(wrong));
        }
        for (int cubes = 1; cubes <= 4; cubes++) {
            int many = cubes;
            int due = Model.countBodies(cubes);
            check.due("all(" + many + ")", due, () -> works.all(many));
        }
        check.due("all(4)", 8, () -> works.all(4));
    }
}
