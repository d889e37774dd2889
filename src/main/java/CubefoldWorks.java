import java.util.Arrays;
import java.util.NoSuchElementException;

/**
 * Boxes that were never boxes: bodies of cubes, sheets of squares, boards, a knife, a die, patents and orders.
 *
 * <p>Every set of cells or squares is a long, bit n for the place n, so that no call makes an object.
 */
public final class CubefoldWorks {

    private static final int PLACES = 64;
    private static final int MOST_BODIES = 8;
    private static final int MOST_CUBES = 8;
    private static final int MOST_SHEETS = 8;
    private static final int MOST_BOARDS = 4;
    private static final int DAYS = 100;
    private static final int BLUNT_FROM = 100;
    private static final int PRICE_OF_SQUARE = 10;
    private static final int PRICE_OF_CUBE = 50;

    /** How many bodies of 1, 2, 3 and 4 cubes there are; the grid has room for all of them. */
    private static final int[] BODIES_OF = {1, 1, 2, 8};

    private final Grid grid = new Grid();
    private final Paper paper = new Paper();
    private final Rolling rolling = new Rolling();
    private final Layers layers = new Layers();
    private final Patents patents = new Patents();
    private final Orders orders = new Orders();

    private final long[] bodies = new long[MOST_BODIES];
    private final long[] sheets = new long[MOST_SHEETS];
    private final long[] boards = new long[MOST_BOARDS];

    /** A row that kinds() fills anew: one made in each call would fill the room of a run. */
    private final long[] shapes = new long[MOST_BODIES];

    private int bodyCount;
    private int sheetCount;
    private int boardCount;
    private int knifeHasCut;
    private int dieSquare;
    private int diePose;
    private long earnings;

    public CubefoldWorks() {
        diePose = Rolling.FIRST_POSE;
    }

    // ---- bodies

    public int addBody(int cell) throws IllegalArgumentException, IllegalStateException {
        requirePlace(cell);
        if (bodyCount >= bodies.length) {
            throw new IllegalStateException("there are 8 bodies");
        }
        bodies[bodyCount] = Places.one(cell);
        bodyCount++;
        return bodyCount - 1;
    }

    public int addCube(int body, int cell) throws IndexOutOfBoundsException, IllegalArgumentException,
            UnsupportedOperationException, IllegalStateException {
        requireBody(body);
        requirePlace(cell);
        long cells = bodies[body];
        long added = Places.one(cell);
        if ((cells & added) != 0 || (grid.withNext(cells) & added) == 0) {
            throw new UnsupportedOperationException("a cube is there, or none is next to it");
        }
        if (Long.bitCount(cells) >= MOST_CUBES) {
            throw new IllegalStateException("the body has 8 cubes");
        }
        bodies[body] = cells | added;
        return Long.bitCount(bodies[body]);
    }

    public int takeCube(int body, int cell) throws IndexOutOfBoundsException, IllegalArgumentException,
            NoSuchElementException, UnsupportedOperationException {
        requireBody(body);
        requirePlace(cell);
        long taken = Places.one(cell);
        if ((bodies[body] & taken) == 0) {
            throw new NoSuchElementException("no cube is there");
        }
        long left = bodies[body] & ~taken;
        if (!grid.isJoined(left)) {
            throw new UnsupportedOperationException("the body would have no cube, or not be one");
        }
        bodies[body] = left;
        return Long.bitCount(left);
    }

    public int cubes(int body) throws IndexOutOfBoundsException {
        requireBody(body);
        return Long.bitCount(bodies[body]);
    }

    public int skin(int body) throws IndexOutOfBoundsException {
        requireBody(body);
        return grid.openSides(bodies[body]);
    }

    public boolean areAlike(int body, int other) throws IndexOutOfBoundsException {
        requireBody(body);
        requireBody(other);
        return grid.shapeOf(bodies[body]) == grid.shapeOf(bodies[other]);
    }

    public boolean areMirrored(int body, int other) throws IndexOutOfBoundsException {
        requireBody(body);
        requireBody(other);
        return grid.shapeOf(grid.mirrorOf(bodies[body])) == grid.shapeOf(bodies[other]);
    }

    public int kinds() {
        int found = 0;
        for (int body = 0; body < bodyCount; body++) {
            shapes[body] = grid.shapeOf(bodies[body]);
            if (!isAmong(shapes, body, shapes[body])) {
                found++;
            }
        }
        return found;
    }

    public int all(int cubes) throws IllegalArgumentException {
        if (cubes < 1 || cubes > BODIES_OF.length) {
            throw new IllegalArgumentException("the number of cubes is not 1 to 4");
        }
        return BODIES_OF[cubes - 1];
    }

    // ---- sheets

    public int addSheet() throws IllegalStateException {
        if (sheetCount >= sheets.length) {
            throw new IllegalStateException("there are 8 sheets");
        }
        sheetCount++;
        return sheetCount - 1;
    }

    public boolean set(int sheet, int square, boolean is) throws IndexOutOfBoundsException,
            IllegalArgumentException {
        requireSheet(sheet);
        requirePlace(square);
        long before = sheets[sheet];
        long one = Places.one(square);
        sheets[sheet] = is ? before | one : before & ~one;
        return (before & one) != 0;
    }

    public int squares(int sheet) throws IndexOutOfBoundsException {
        requireSheet(sheet);
        return Long.bitCount(sheets[sheet]);
    }

    public int edge(int sheet) throws IndexOutOfBoundsException {
        requireSheet(sheet);
        return paper.openSides(sheets[sheet]);
    }

    public boolean isOne(int sheet) throws IndexOutOfBoundsException {
        requireSheet(sheet);
        return paper.isJoined(sheets[sheet]);
    }

    public boolean areLike(int sheet, int other) throws IndexOutOfBoundsException {
        requireSheet(sheet);
        requireSheet(other);
        return paper.shapeOf(sheets[sheet]) == paper.shapeOf(sheets[other]);
    }

    public int ways(int sheet) throws IndexOutOfBoundsException {
        requireSheet(sheet);
        return paper.unlikeTurns(sheets[sheet]);
    }

    // ---- cubes, foldings

    public boolean folds(int sheet) throws IndexOutOfBoundsException {
        requireSheet(sheet);
        return rolling.makesCube(sheets[sheet]);
    }

    public int opposite(int sheet, int square) throws IndexOutOfBoundsException, IllegalArgumentException,
            UnsupportedOperationException, NoSuchElementException {
        requireSheet(sheet);
        requirePlace(square);
        if (!rolling.makesCube(sheets[sheet])) {
            throw new UnsupportedOperationException("the sheet does not fold to a cube");
        }
        requireSquare(sheet, square);
        return rolling.squareAcross(Places.one(square));
    }

    public int cubeAdds(int sheet) throws IndexOutOfBoundsException {
        requireSheet(sheet);
        long squares = sheets[sheet];
        int found = 0;
        for (int square = 0; square < PLACES; square++) {
            long added = Places.one(square);
            if ((squares & added) == 0 && rolling.makesCube(squares | added)) {
                found++;
            }
        }
        return found;
    }

    public int depth(int sheet, int base, int square) throws IndexOutOfBoundsException, IllegalArgumentException,
            UnsupportedOperationException, NoSuchElementException {
        requireSheet(sheet);
        requirePlace(base);
        requirePlace(square);
        requireOne(sheet);
        requireSquare(sheet, base);
        requireSquare(sheet, square);
        layers.spreadFrom(Places.one(base), sheets[sheet]);
        return layers.layerOf(Places.one(square));
    }

    public int fold(int sheet, int base, int index) throws IndexOutOfBoundsException, IllegalArgumentException,
            UnsupportedOperationException, NoSuchElementException {
        requireSheet(sheet);
        requirePlace(base);
        requireOne(sheet);
        requireSquare(sheet, base);
        if (index < 0 || index >= Long.bitCount(sheets[sheet]) - 1) {
            throw new NoSuchElementException("there is no such fold");
        }
        layers.spreadFrom(Places.one(base), sheets[sheet]);
        return layers.fromDeepest(index);
    }

    // ---- boards, knives

    public int addBoard() throws IllegalStateException {
        if (boardCount >= boards.length) {
            throw new IllegalStateException("there are 4 boards");
        }
        boardCount++;
        return boardCount - 1;
    }

    public int fits(int sheet, int board) throws IndexOutOfBoundsException, NoSuchElementException {
        requireSheet(sheet);
        requireBoard(board);
        int fit = paper.firstFit(sheets[sheet], boards[board]);
        if (fit < 0) {
            throw new NoSuchElementException("the sheet fits nowhere, or has no squares");
        }
        return fit;
    }

    public int lay(int sheet, int board) throws IndexOutOfBoundsException, UnsupportedOperationException {
        requireSheet(sheet);
        requireBoard(board);
        int fit = paper.firstFit(sheets[sheet], boards[board]);
        if (fit < 0) {
            throw new UnsupportedOperationException("the sheet fits nowhere, or has no squares");
        }
        boards[board] |= paper.laidAt(sheets[sheet], fit);
        return freeSquares(board);
    }

    public int free(int board) throws IndexOutOfBoundsException {
        requireBoard(board);
        return freeSquares(board);
    }

    public boolean isFree(int board, int square) throws IndexOutOfBoundsException, IllegalArgumentException {
        requireBoard(board);
        requirePlace(square);
        return (boards[board] & Places.one(square)) == 0;
    }

    public int cut(int sheet) throws IndexOutOfBoundsException, UnsupportedOperationException {
        requireSheet(sheet);
        if (sheets[sheet] == 0 || knifeHasCut >= BLUNT_FROM) {
            throw new UnsupportedOperationException("the sheet has no squares, or the knife is blunt");
        }
        knifeHasCut += paper.openSides(sheets[sheet]);
        return knifeHasCut;
    }

    public int sharpen() {
        int before = knifeHasCut;
        knifeHasCut = 0;
        return before;
    }

    // ---- dice

    public int put(int square) throws IllegalArgumentException {
        requirePlace(square);
        int before = dieSquare;
        dieSquare = square;
        diePose = Rolling.FIRST_POSE;
        return before;
    }

    public int roll(char way) throws IllegalArgumentException, UnsupportedOperationException {
        int number = Paper.wayNamed(way);
        if (number < 0) {
            throw new IllegalArgumentException("the way is not n, s, e or w");
        }
        long next = paper.stepped(Places.one(dieSquare), number);
        if (next == 0) {
            throw new UnsupportedOperationException("the die would leave the paper");
        }
        dieSquare = Places.lowest(next);
        diePose = rolling.poseAfter(diePose, number);
        return rolling.faceBelow(diePose);
    }

    public int below() {
        return rolling.faceBelow(diePose);
    }

    public int onTop() {
        return Rolling.across(rolling.faceBelow(diePose));
    }

    public int rolls(int square, int number) throws IllegalArgumentException {
        requirePlace(square);
        if (number < 1 || number > Rolling.FACES) {
            throw new IllegalArgumentException("the number is not 1 to 6");
        }
        rolling.startAt(Places.one(dieSquare), diePose);
        return rolling.stepsTo(Places.one(square), number);
    }

    // ---- patents, orders

    public int patent(int sheet) throws IndexOutOfBoundsException, UnsupportedOperationException {
        requireSheet(sheet);
        requireOne(sheet);
        long shape = paper.shapeOf(sheets[sheet]);
        if (patents.numberOf(shape) >= 0 || patents.isFull()) {
            throw new UnsupportedOperationException("one alike has a patent");
        }
        return patents.takeFor(shape);
    }

    public int patentOf(int sheet) throws IndexOutOfBoundsException, NoSuchElementException {
        requireSheet(sheet);
        int number = patents.numberOf(paper.shapeOf(sheets[sheet]));
        if (number < 0) {
            throw new NoSuchElementException("no patent bars the sheet");
        }
        return number;
    }

    public int order(int sheet, int day) throws IndexOutOfBoundsException, IllegalArgumentException,
            UnsupportedOperationException, IllegalStateException {
        requireSheet(sheet);
        if (day < 0 || day >= DAYS) {
            throw new IllegalArgumentException("the day is not 0 to 99");
        }
        if (sheets[sheet] == 0 || patents.numberOf(paper.shapeOf(sheets[sheet])) >= 0) {
            throw new UnsupportedOperationException("the sheet has no squares, or a patent bars it");
        }
        if (orders.isFull()) {
            throw new IllegalStateException("20 orders wait");
        }
        int price = priceOf(sheets[sheet]);
        orders.queue(day, price);
        return price;
    }

    public int make() throws NoSuchElementException {
        if (orders.isEmpty()) {
            throw new NoSuchElementException("no order waits");
        }
        int price = orders.removeFirst();
        earnings += price;
        return price;
    }

    public long earned() {
        return earnings;
    }

    // ---- figures

    public long checksum() {
        long sum = 7;
        for (int body = 0; body < bodyCount; body++) {
            sum = Places.addedTo(sum, bodies[body]);
        }
        for (int sheet = 0; sheet < sheetCount; sheet++) {
            sum = Places.addedTo(sum, sheets[sheet]);
        }
        for (int board = 0; board < boardCount; board++) {
            sum = 31 * sum + freeSquares(board);
        }
        sum = 31 * sum + dieSquare;
        return 31 * sum + rolling.faceBelow(diePose);
    }

    public float usedShare() throws ArithmeticException {
        if (boardCount == 0) {
            throw new ArithmeticException("there are no boards");
        }
        int used = 0;
        for (int board = 0; board < boardCount; board++) {
            used += PLACES - freeSquares(board);
        }
        return (float) used / (float) (PLACES * boardCount);
    }

    public double meanSkin() throws ArithmeticException {
        if (bodyCount == 0) {
            throw new ArithmeticException("there are no bodies");
        }
        int sum = 0;
        for (int body = 0; body < bodyCount; body++) {
            sum += grid.openSides(bodies[body]);
        }
        return (double) sum / (double) bodyCount;
    }

    public boolean isSound() {
        for (int body = 0; body < bodyCount; body++) {
            if (!grid.isJoined(bodies[body]) || Long.bitCount(bodies[body]) > MOST_CUBES) {
                return false;
            }
        }
        return knifeHasCut >= 0 && earnings >= 0 && Places.isPlace(dieSquare)
                && rolling.faceBelow(diePose) > 0 && orders.areInTurn();
    }

    // ---- what the calls share

    private void requireBody(int body) {
        requireBelow(body, bodyCount);
    }

    private void requireSheet(int sheet) {
        requireBelow(sheet, sheetCount);
    }

    private void requireBoard(int board) {
        requireBelow(board, boardCount);
    }

    private static void requireBelow(int number, int count) {
        if (number < 0 || number >= count) {
            throw new IndexOutOfBoundsException("there is no such body, sheet or board");
        }
    }

    private static void requirePlace(int place) {
        if (!Places.isPlace(place)) {
            throw new IllegalArgumentException("the cell or square is not 0 to 63");
        }
    }

    private void requireOne(int sheet) {
        if (!paper.isJoined(sheets[sheet])) {
            throw new UnsupportedOperationException("the sheet is not one");
        }
    }

    private void requireSquare(int sheet, int square) {
        if ((sheets[sheet] & Places.one(square)) == 0) {
            throw new NoSuchElementException("the sheet does not have the square");
        }
    }

    private static boolean isAmong(long[] shapes, int count, long shape) {
        for (int index = 0; index < count && index < shapes.length; index++) {
            if (shapes[index] == shape) {
                return true;
            }
        }
        return false;
    }

    private int freeSquares(int board) {
        return PLACES - Long.bitCount(boards[board]);
    }

    private int priceOf(long squares) {
        int plain = PRICE_OF_SQUARE * Long.bitCount(squares) + paper.openSides(squares);
        return rolling.makesCube(squares) ? plain + PRICE_OF_CUBE : plain;
    }

    /** Sets of places, as the bits of a long. */
    private static final class Places {

        static boolean isPlace(int number) {
            return number >= 0 && number < PLACES;
        }

        static long one(int place) {
            return 1L << place;
        }

        static int lowest(long places) {
            return Long.bitCount((places & -places) - 1);
        }

        /** The place with so many lower ones in the set. */
        static int withLower(long places, int lower) {
            long left = places;
            for (int gone = 0; gone < lower; gone++) {
                left &= left - 1;
            }
            return lowest(left);
        }

        static long addedTo(long start, long places) {
            long sum = start;
            for (int place = 0; place < PLACES; place++) {
                if ((places & one(place)) != 0) {
                    sum = 31 * sum + place;
                }
            }
            return sum;
        }
    }

    /** What the grid of cells and the paper of squares have in common. */
    private abstract static class Space {

        private final int wayCount;
        private final int turnCount;

        Space(int wayCount, int turnCount) {
            this.wayCount = wayCount;
            this.turnCount = turnCount;
        }

        /** The places one step off by a way, without those that would leave. */
        abstract long stepped(long places, int way);

        /** The places turned, and moved to where the least of each coordinate is 0. */
        abstract long turned(long places, int turn);

        final long withNext(long places) {
            long all = places;
            for (int way = 0; way < wayCount; way++) {
                all |= stepped(places, way);
            }
            return all;
        }

        final boolean isJoined(long places) {
            long found = places & -places;
            long wider = withNext(found) & places;
            for (int step = 0; step < PLACES && wider != found; step++) {
                found = wider;
                wider = withNext(found) & places;
            }
            return places != 0 && found == places;
        }

        final int openSides(long places) {
            int sides = 0;
            for (int way = 0; way < wayCount; way++) {
                sides += Long.bitCount(places & ~stepped(places, way));
            }
            return sides;
        }

        /** The same number for all that are alike, and for no others: the least that a turn of it gives. */
        final long shapeOf(long places) {
            long least = turned(places, 0);
            for (int turn = 1; turn < turnCount; turn++) {
                least = Math.min(least, turned(places, turn));
            }
            return least;
        }

        /** The places moved down one coordinate until one of them is at its rim. */
        static long movedTo(long rim, long places, int stride, int mostSteps) {
            long moved = places;
            for (int step = 0; step < mostSteps && (moved & rim) == 0; step++) {
                moved >>>= stride;
            }
            return moved;
        }
    }

    /** The grid of 4 by 4 by 4 cells. */
    private static final class Grid extends Space {

        private static final int WAYS = 6;
        private static final int TURNS = 24;
        private static final int HIGH = 3;
        private static final long LOW_X = 0x1111111111111111L;
        private static final long HIGH_X = 0x8888888888888888L;
        private static final long LOW_Y = 0x000F000F000F000FL;
        private static final long HIGH_Y = 0xF000F000F000F000L;
        private static final long LOW_Z = 0x000000000000FFFFL;

        Grid() {
            super(WAYS, TURNS);
        }

        long stepped(long cells, int way) {
            switch (way) {
                case 0: return (cells & ~HIGH_X) << 1;
                case 1: return (cells & ~LOW_X) >>> 1;
                case 2: return (cells & ~HIGH_Y) << 4;
                case 3: return (cells & ~LOW_Y) >>> 4;
                case 4: return cells << 16;
                default: return cells >>> 16;
            }
        }

        long turned(long cells, int turn) {
            long found = 0;
            for (int cell = 0; cell < PLACES; cell++) {
                if ((cells & Places.one(cell)) != 0) {
                    found |= Places.one(turnedCell(cell, turn));
                }
            }
            long atX = movedTo(LOW_X, found, 1, HIGH);
            long atY = movedTo(LOW_Y, atX, 4, HIGH);
            return movedTo(LOW_Z, atY, 16, HIGH);
        }

        long mirrorOf(long cells) {
            return turned(cells, TURNS);
        }

        /** The 24 turns are 4 quarters about z, by 2 halves about x, by 3 thirds about a diagonal; TURNS mirrors. */
        private static int turnedCell(int cell, int turn) {
            int x = cell & HIGH;
            int y = cell >> 2 & HIGH;
            int z = cell >> 4 & HIGH;
            if (turn >= TURNS) {
                x = HIGH - x;
            }
            for (int quarter = 0; quarter < turn % 4; quarter++) {
                int before = x;
                x = HIGH - y;
                y = before;
            }
            if (turn / 4 % 2 == 1) {
                y = HIGH - y;
                z = HIGH - z;
            }
            for (int third = 0; third < turn / 8 % 3; third++) {
                int before = x;
                x = y;
                y = z;
                z = before;
            }
            return x + 4 * y + 16 * z;
        }
    }

    /** The paper of 8 by 8 squares, which boards and the floor of the die are like. */
    private static final class Paper extends Space {

        static final int WAYS = 4;
        static final int NORTH = 0;
        static final int SOUTH = 1;
        static final int EAST = 2;
        static final int WEST = 3;
        private static final int TURNS = 8;
        private static final int SIDE = 8;
        private static final int HIGH = 7;
        private static final long LOW_COLUMN = 0x0101010101010101L;
        private static final long HIGH_COLUMN = 0x8080808080808080L;
        private static final long LOW_ROW = 0x00000000000000FFL;
        private static final long HIGH_ROW = 0xFF00000000000000L;

        Paper() {
            super(WAYS, TURNS);
        }

        static int wayNamed(char name) {
            switch (name) {
                case 'n': return NORTH;
                case 's': return SOUTH;
                case 'e': return EAST;
                case 'w': return WEST;
                default: return -1;
            }
        }

        long stepped(long squares, int way) {
            switch (way) {
                case NORTH: return squares >>> SIDE;
                case SOUTH: return squares << SIDE;
                case EAST: return (squares & ~HIGH_COLUMN) << 1;
                default: return (squares & ~LOW_COLUMN) >>> 1;
            }
        }

        long turned(long squares, int turn) {
            long found = 0;
            for (int square = 0; square < PLACES; square++) {
                if ((squares & Places.one(square)) != 0) {
                    found |= Places.one(turnedSquare(square, turn));
                }
            }
            return movedTo(LOW_ROW, movedTo(LOW_COLUMN, found, 1, HIGH), SIDE, HIGH);
        }

        private static int turnedSquare(int square, int turn) {
            int x = square & HIGH;
            int y = square >> 3 & HIGH;
            if (turn >= 4) {
                x = HIGH - x;
            }
            for (int quarter = 0; quarter < turn % 4; quarter++) {
                int before = x;
                x = HIGH - y;
                y = before;
            }
            return x + SIDE * y;
        }

        /** Each way to lie comes from equally many of the turns: from as many as leave the sheet as it lies. */
        int unlikeTurns(long squares) {
            long first = turned(squares, 0);
            int same = 1;
            for (int turn = 1; turn < TURNS; turn++) {
                if (turned(squares, turn) == first) {
                    same++;
                }
            }
            return TURNS / same;
        }

        /** 100 times the turn, 10 times the row, and the column, or -1. */
        int firstFit(long squares, long taken) {
            if (squares == 0) {
                return -1;
            }
            for (int turn = 0; turn < TURNS; turn++) {
                int place = firstPlace(turned(squares, turn), taken);
                if (place >= 0) {
                    return 100 * turn + place;
                }
            }
            return -1;
        }

        private static int firstPlace(long turned, long taken) {
            long inRow = turned;
            for (int row = 0; row < SIDE; row++) {
                int column = firstColumn(inRow, taken);
                if (column >= 0) {
                    return 10 * row + column;
                }
                if ((inRow & HIGH_ROW) != 0) {
                    return -1;
                }
                inRow <<= SIDE;
            }
            return -1;
        }

        private static int firstColumn(long inRow, long taken) {
            long moved = inRow;
            for (int column = 0; column < SIDE; column++) {
                if ((moved & taken) == 0) {
                    return column;
                }
                if ((moved & HIGH_COLUMN) != 0) {
                    return -1;
                }
                moved <<= 1;
            }
            return -1;
        }

        long laidAt(long squares, int fit) {
            int corner = SIDE * (fit / 10 % 10) + fit % 10;
            return turned(squares, fit / 100) << corner;
        }
    }

    /** A cube in its 24 poses, and the squares on which it lies in each of them after some rolls. */
    private static final class Rolling {

        static final int FACES = 6;
        static final int FIRST_POSE = 0;
        private static final int POSES = 24;

        /** The faces below, to the lower row and to the higher column, one digit each: they tell all six. */
        private static final int FIRST_FACES = 623;

        private final Paper paper = new Paper();
        private final int[] poseFaces = new int[POSES];
        private final int[] posesAfter = new int[POSES * Paper.WAYS];
        private final long[] lies = new long[POSES];
        private final long[] liesNext = new long[POSES];

        Rolling() {
            poseFaces[FIRST_POSE] = FIRST_FACES;
            for (int index = 0; index < posesAfter.length; index++) {
                int rolled = rolledFaces(poseFaces[index / Paper.WAYS], index % Paper.WAYS);
                int pose = 0;
                while (pose < POSES - 1 && poseFaces[pose] != rolled && poseFaces[pose] != 0) {
                    pose++;
                }
                poseFaces[pose] = rolled;
                posesAfter[index] = pose;
            }
        }

        private static int rolledFaces(int faces, int way) {
            int below = faces / 100;
            int north = faces / 10 % 10;
            int east = faces % 10;
            switch (way) {
                case Paper.NORTH: return 100 * north + 10 * across(below) + east;
                case Paper.SOUTH: return 100 * across(north) + 10 * below + east;
                case Paper.EAST: return 100 * east + 10 * north + across(below);
                default: return 100 * across(east) + 10 * north + below;
            }
        }

        static int across(int face) {
            return FACES + 1 - face;
        }

        int poseAfter(int pose, int way) {
            int index = Paper.WAYS * pose + way;
            return index >= 0 && index < posesAfter.length ? posesAfter[index] : FIRST_POSE;
        }

        int faceBelow(int pose) {
            return pose >= 0 && pose < POSES ? poseFaces[pose] / 100 : 0;
        }

        void startAt(long square, int pose) {
            Arrays.fill(lies, 0L);
            if (pose >= 0 && pose < POSES) {
                lies[pose] = square;
            }
        }

        /** Lets the cube also lie where one more roll brings it, and tells whether that is more. */
        private boolean rollOn(long floor) {
            System.arraycopy(lies, 0, liesNext, 0, POSES);
            for (int index = 0; index < posesAfter.length; index++) {
                long from = lies[index / Paper.WAYS];
                int pose = posesAfter[index];
                if (from != 0 && pose >= 0 && pose < POSES) {
                    liesNext[pose] |= paper.stepped(from, index % Paper.WAYS) & floor;
                }
            }
            boolean more = false;
            for (int pose = 0; pose < POSES; pose++) {
                if (lies[pose] != liesNext[pose]) {
                    more = true;
                }
                lies[pose] = liesNext[pose];
            }
            return more;
        }

        int stepsTo(long square, int face) {
            int steps = 0;
            while (steps < POSES * PLACES && (squaresOn(face) & square) == 0) {
                rollOn(-1L);
                steps++;
            }
            return steps;
        }

        private long squaresOn(int face) {
            long squares = 0;
            for (int pose = 0; pose < POSES; pose++) {
                if (faceBelow(pose) == face) {
                    squares |= lies[pose];
                }
            }
            return squares;
        }

        boolean makesCube(long sheet) {
            if (Long.bitCount(sheet) != FACES || !paper.isJoined(sheet)) {
                return false;
            }
            startAt(sheet & -sheet, FIRST_POSE);
            boolean more = true;
            for (int step = 0; step < POSES * FACES && more; step++) {
                more = rollOn(sheet);
            }
            return eachOnItsOwn();
        }

        /** As all six squares are reached, six lyings on six faces leave each square one pose and a face of its own. */
        private boolean eachOnItsOwn() {
            int lyings = 0;
            for (int pose = 0; pose < POSES; pose++) {
                lyings += Long.bitCount(lies[pose]);
            }
            int facesDown = 0;
            for (int face = 1; face <= FACES; face++) {
                facesDown += squaresOn(face) != 0 ? 1 : 0;
            }
            return lyings == FACES && facesDown == FACES;
        }

        /** Of the sheet that was last found to make a cube. */
        int squareAcross(long square) {
            for (int face = 1; face <= FACES; face++) {
                if (squaresOn(face) == square) {
                    return Places.lowest(squaresOn(across(face)));
                }
            }
            return -1;
        }
    }

    /** The squares of a sheet by their depths from a base. */
    private static final class Layers {

        private final Paper paper = new Paper();
        private final long[] atDepth = new long[PLACES];

        void spreadFrom(long base, long sheet) {
            long found = base;
            atDepth[0] = base;
            for (int depth = 1; depth < PLACES; depth++) {
                long wider = paper.withNext(found) & sheet;
                atDepth[depth] = wider & ~found;
                found = wider;
            }
        }

        int layerOf(long square) {
            int depth = 0;
            while (depth < PLACES - 1 && (atDepth[depth] & square) == 0) {
                depth++;
            }
            return depth;
        }

        int fromDeepest(int index) {
            int left = index;
            for (int depth = PLACES - 1; depth > 0; depth--) {
                int here = Long.bitCount(atDepth[depth]);
                if (left < here) {
                    return Places.withLower(atDepth[depth], left);
                }
                left -= here;
            }
            return -1;
        }
    }

    /** The shapes that are patented, as they came. */
    private static final class Patents {

        /** The document sets no bound, but each patent takes a call, and an object serves 512. */
        private static final int MOST = 512;

        private final long[] patented = new long[MOST];
        private int count;

        boolean isFull() {
            return count >= patented.length;
        }

        int numberOf(long shape) {
            for (int number = 0; number < count && number < patented.length; number++) {
                if (patented[number] == shape) {
                    return number;
                }
            }
            return -1;
        }

        int takeFor(long shape) {
            if (!isFull()) {
                patented[count] = shape;
                count++;
            }
            return count;
        }
    }

    /** The orders that wait, the next one first. */
    private static final class Orders {

        private static final int MOST = 20;

        private final int[] days = new int[MOST];
        private final int[] prices = new int[MOST];
        private int count;

        boolean isFull() {
            return count >= MOST;
        }

        boolean isEmpty() {
            return count <= 0;
        }

        void queue(int day, int price) {
            if (isFull()) {
                return;
            }
            int index = count;
            while (index > 0 && days[index - 1] > day) {
                days[index] = days[index - 1];
                prices[index] = prices[index - 1];
                index--;
            }
            days[index] = day;
            prices[index] = price;
            count++;
        }

        int removeFirst() {
            if (isEmpty()) {
                return 0;
            }
            int price = prices[0];
            count--;
            System.arraycopy(days, 1, days, 0, count);
            System.arraycopy(prices, 1, prices, 0, count);
            return price;
        }

        boolean areInTurn() {
            for (int index = 1; index < count && index < MOST; index++) {
                if (days[index - 1] > days[index]) {
                    return false;
                }
            }
            return true;
        }
    }
}
