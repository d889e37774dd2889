import java.util.ArrayDeque;
import java.util.ArrayList;
import java.util.Arrays;
import java.util.Comparator;
import java.util.HashMap;
import java.util.List;
import java.util.Map;
import java.util.NoSuchElementException;
import java.util.Set;
import java.util.TreeMap;
import java.util.TreeSet;

/**
 * The same works, written a second time from the document with sets, texts and vectors, slow and plain. ModelTest
 * compares what both answer.
 */
public final class Model {

    private static final int[][] STEPS = {{0, -1}, {0, 1}, {1, 0}, {-1, 0}};

    private final List<TreeSet<Integer>> bodies = new ArrayList<>();
    private final List<TreeSet<Integer>> sheets = new ArrayList<>();
    private final List<TreeSet<Integer>> boards = new ArrayList<>();
    private final List<String> patents = new ArrayList<>();
    private final List<int[]> orders = new ArrayList<>();
    private int knife;
    private int dieSquare;
    private Die die = new Die(6, 2, 3);
    private long earned;

    /** The faces below, to the lower row and to the higher column. */
    private record Die(int below, int north, int east) {
        Die rolled(int way) {
            switch (way) {
                case 0: return new Die(north, 7 - below, east);
                case 1: return new Die(7 - north, below, east);
                case 2: return new Die(east, north, 7 - below);
                default: return new Die(7 - east, north, below);
            }
        }
    }

    private record Lying(int square, Die die) {
    }

    // ---- bodies

    public int addBody(int cell) {
        place(cell);
        if (bodies.size() == 8) {
            throw new IllegalStateException();
        }
        bodies.add(new TreeSet<>(Set.of(cell)));
        return bodies.size() - 1;
    }

    public int addCube(int body, int cell) {
        TreeSet<Integer> cells = of(bodies, body);
        place(cell);
        if (cells.contains(cell) || cells.stream().noneMatch(other -> cellsTouch(cell, other))) {
            throw new UnsupportedOperationException();
        }
        if (cells.size() == 8) {
            throw new IllegalStateException();
        }
        cells.add(cell);
        return cells.size();
    }

    public int takeCube(int body, int cell) {
        TreeSet<Integer> cells = of(bodies, body);
        place(cell);
        if (!cells.contains(cell)) {
            throw new NoSuchElementException();
        }
        TreeSet<Integer> left = new TreeSet<>(cells);
        left.remove(cell);
        if (left.isEmpty() || !connected(left, true)) {
            throw new UnsupportedOperationException();
        }
        bodies.set(body, left);
        return left.size();
    }

    public int cubes(int body) {
        return of(bodies, body).size();
    }

    public int skin(int body) {
        TreeSet<Integer> cells = of(bodies, body);
        int open = 0;
        for (int cell : cells) {
            open += 6 - (int) cells.stream().filter(other -> cellsTouch(cell, other)).count();
        }
        return open;
    }

    public boolean areAlike(int body, int other) {
        return bodyShape(of(bodies, body), 1).equals(bodyShape(of(bodies, other), 1));
    }

    public boolean areMirrored(int body, int other) {
        return bodyShape(of(bodies, body), -1).equals(bodyShape(of(bodies, other), 1));
    }

    public int kinds() {
        Set<String> shapes = new TreeSet<>();
        bodies.forEach(body -> shapes.add(bodyShape(body, 1)));
        return shapes.size();
    }

    public int all(int cubes) {
        if (cubes < 1 || cubes > 4) {
            throw new IllegalArgumentException();
        }
        return countBodies(cubes);
    }

    static int countBodies(int cubes) {
        Map<String, TreeSet<Integer>> found = new TreeMap<>();
        found.put("one", new TreeSet<>(Set.of(0)));
        for (int many = 2; many <= cubes; many++) {
            Map<String, TreeSet<Integer>> grown = new TreeMap<>();
            for (TreeSet<Integer> body : found.values()) {
                grow(body, grown);
            }
            found = grown;
        }
        return found.size();
    }

    /** Bodies of at most four cubes, of which the first lies anywhere, so that none is cut short by the grid. */
    private static void grow(TreeSet<Integer> body, Map<String, TreeSet<Integer>> grown) {
        for (int move = 0; move < 64; move++) {
            TreeSet<Integer> moved = movedCells(body, move);
            for (int cell = 0; cell < 64; cell++) {
                int added = cell;
                if (moved != null && !moved.contains(cell) && moved.stream().anyMatch(c -> cellsTouch(c, added))) {
                    TreeSet<Integer> bigger = new TreeSet<>(moved);
                    bigger.add(cell);
                    grown.put(bodyShape(bigger, 1), bigger);
                }
            }
        }
    }

    private static TreeSet<Integer> movedCells(TreeSet<Integer> body, int move) {
        int[] least = {3, 3, 3};
        for (int cell : body) {
            for (int axis = 0; axis < 3; axis++) {
                least[axis] = Math.min(least[axis], coordinate(cell, axis));
            }
        }
        TreeSet<Integer> moved = new TreeSet<>();
        for (int cell : body) {
            int to = 0;
            for (int axis = 2; axis >= 0; axis--) {
                int at = coordinate(cell, axis) - least[axis] + coordinate(move, axis);
                if (at > 3) {
                    return null;
                }
                to = 4 * to + at;
            }
            moved.add(to);
        }
        return moved;
    }

    private static int coordinate(int cell, int axis) {
        return axis == 0 ? cell % 4 : axis == 1 ? cell / 4 % 4 : cell / 16;
    }

    private static boolean cellsTouch(int cell, int other) {
        int sum = 0;
        for (int axis = 0; axis < 3; axis++) {
            sum += Math.abs(coordinate(cell, axis) - coordinate(other, axis));
        }
        return sum == 1;
    }

    /** The 24 matrices of turns (1), or of turns with a mirror (-1). */
    static List<int[][]> turns(int determinant) {
        List<int[][]> found = new ArrayList<>();
        int[][] orders = {{0, 1, 2}, {1, 2, 0}, {2, 0, 1}, {1, 0, 2}, {0, 2, 1}, {2, 1, 0}};
        for (int index = 0; index < 6; index++) {
            for (int signs = 0; signs < 8; signs++) {
                int sign = index < 3 ? 1 : -1;
                int[][] matrix = new int[3][3];
                for (int axis = 0; axis < 3; axis++) {
                    int one = (signs >> axis & 1) == 0 ? 1 : -1;
                    matrix[axis][orders[index][axis]] = one;
                    sign *= one;
                }
                if (sign == determinant) {
                    found.add(matrix);
                }
            }
        }
        return found;
    }

    private static String bodyShape(Set<Integer> cells, int determinant) {
        String least = null;
        for (int[][] matrix : turns(determinant)) {
            List<int[]> points = new ArrayList<>();
            for (int cell : cells) {
                int[] point = new int[3];
                for (int row = 0; row < 3; row++) {
                    for (int axis = 0; axis < 3; axis++) {
                        point[row] += matrix[row][axis] * coordinate(cell, axis);
                    }
                }
                points.add(point);
            }
            String text = normal(points);
            least = least == null || text.compareTo(least) < 0 ? text : least;
        }
        return least;
    }

    /** The points as a sorted text, moved so that the least of each coordinate is 0. */
    private static String normal(List<int[]> points) {
        Set<String> texts = new TreeSet<>();
        for (int[] point : points) {
            int[] moved = point.clone();
            for (int axis = 0; axis < point.length; axis++) {
                int along = axis;
                moved[axis] -= points.stream().mapToInt(other -> other[along]).min().orElse(0);
            }
            texts.add(Arrays.toString(moved));
        }
        return texts.toString();
    }

    // ---- sheets

    public int addSheet() {
        if (sheets.size() == 8) {
            throw new IllegalStateException();
        }
        sheets.add(new TreeSet<>());
        return sheets.size() - 1;
    }

    public boolean set(int sheet, int square, boolean is) {
        TreeSet<Integer> squares = of(sheets, sheet);
        place(square);
        boolean had = squares.contains(square);
        if (is) {
            squares.add(square);
        } else {
            squares.remove(square);
        }
        return had;
    }

    public int squares(int sheet) {
        return of(sheets, sheet).size();
    }

    public int edge(int sheet) {
        return edgeOf(of(sheets, sheet));
    }

    private static int edgeOf(Set<Integer> squares) {
        int open = 0;
        for (int square : squares) {
            for (int way = 0; way < 4; way++) {
                open += squares.contains(next(square, way)) ? 0 : 1;
            }
        }
        return open;
    }

    /** The square next to one, or -1. */
    static int next(int square, int way) {
        int x = square % 8 + STEPS[way][0];
        int y = square / 8 + STEPS[way][1];
        return x < 0 || x > 7 || y < 0 || y > 7 ? -1 : x + 8 * y;
    }

    public boolean isOne(int sheet) {
        return connected(of(sheets, sheet), false);
    }

    private static boolean connected(TreeSet<Integer> places, boolean cells) {
        if (places.isEmpty()) {
            return false;
        }
        ArrayDeque<Integer> open = new ArrayDeque<>(Set.of(places.last()));
        TreeSet<Integer> left = new TreeSet<>(places);
        left.remove(places.last());
        while (!open.isEmpty()) {
            int from = open.pop();
            for (int to : new ArrayList<>(left)) {
                boolean touch = cells ? cellsTouch(from, to)
                        : Math.abs(from % 8 - to % 8) + Math.abs(from / 8 - to / 8) == 1;
                if (touch) {
                    left.remove(to);
                    open.push(to);
                }
            }
        }
        return left.isEmpty();
    }

    static int turnedSquare(int square, int turn) {
        int x = square % 8;
        int y = square / 8;
        int[][] places = {{x, y}, {7 - y, x}, {7 - x, 7 - y}, {y, 7 - x}, {7 - x, y}, {7 - y, 7 - x}, {x, 7 - y},
            {y, x}};
        return places[turn][0] + 8 * places[turn][1];
    }

    private static Set<String> sheetTurns(Set<Integer> squares) {
        Set<String> texts = new TreeSet<>();
        for (int turn = 0; turn < 8; turn++) {
            List<int[]> points = new ArrayList<>();
            for (int square : squares) {
                int turned = turnedSquare(square, turn);
                points.add(new int[] {turned % 8, turned / 8});
            }
            texts.add(normal(points));
        }
        return texts;
    }

    private static String sheetShape(Set<Integer> squares) {
        return sheetTurns(squares).iterator().next();
    }

    public boolean areLike(int sheet, int other) {
        return sheetShape(of(sheets, sheet)).equals(sheetShape(of(sheets, other)));
    }

    public int ways(int sheet) {
        return sheetTurns(of(sheets, sheet)).size();
    }

    /** The shapes of all sheets of so many squares that are one. */
    static Set<String> sheetShapes(int many) {
        Set<String> shapes = new TreeSet<>(Set.of("[[0, 0]]"));
        for (int count = 2; count <= many; count++) {
            Set<String> grown = new TreeSet<>();
            for (String shape : shapes) {
                TreeSet<Integer> squares = new TreeSet<>();
                for (int square : squaresOfShape(shape)) {
                    squares.add(square + 9);
                }
                for (int square : new ArrayList<>(squares)) {
                    for (int way = 0; way < 4; way++) {
                        TreeSet<Integer> bigger = new TreeSet<>(squares);
                        bigger.add(next(square, way));
                        if (bigger.size() == count) {
                            grown.add(sheetShape(bigger));
                        }
                    }
                }
            }
            shapes = grown;
        }
        return shapes;
    }

    static int[] squaresOfShape(String shape) {
        String[] numbers = shape.replaceAll("[\\[\\] ]", "").split(",");
        int[] squares = new int[numbers.length / 2];
        for (int index = 0; index < squares.length; index++) {
            squares[index] = Integer.parseInt(numbers[2 * index]) + 8 * Integer.parseInt(numbers[2 * index + 1]);
        }
        return squares;
    }

    // ---- cubes, foldings

    public boolean folds(int sheet) {
        return facesOf(of(sheets, sheet)) != null;
    }

    /** The face on each square of a sheet that folds, or null. */
    private static Map<Integer, Integer> facesOf(TreeSet<Integer> squares) {
        if (squares.size() != 6 || !connected(squares, false)) {
            return null;
        }
        Map<Integer, Set<Die>> dice = new TreeMap<>();
        ArrayDeque<Lying> open = new ArrayDeque<>(Set.of(new Lying(squares.first(), new Die(1, 2, 4))));
        while (!open.isEmpty()) {
            Lying one = open.pop();
            if (!dice.computeIfAbsent(one.square(), square -> new java.util.HashSet<>()).add(one.die())) {
                continue;
            }
            for (int way = 0; way < 4; way++) {
                int to = next(one.square(), way);
                if (squares.contains(to)) {
                    open.push(new Lying(to, one.die().rolled(way)));
                }
            }
        }
        Map<Integer, Integer> faces = new TreeMap<>();
        for (Map.Entry<Integer, Set<Die>> entry : dice.entrySet()) {
            if (entry.getValue().size() != 1) {
                return null;
            }
            faces.put(entry.getKey(), entry.getValue().iterator().next().below());
        }
        return new TreeSet<>(faces.values()).size() == 6 ? faces : null;
    }

    public int opposite(int sheet, int square) {
        TreeSet<Integer> squares = of(sheets, sheet);
        place(square);
        Map<Integer, Integer> faces = facesOf(squares);
        if (faces == null) {
            throw new UnsupportedOperationException();
        }
        if (!squares.contains(square)) {
            throw new NoSuchElementException();
        }
        for (int other : squares) {
            if (faces.get(other) + faces.get(square) == 7) {
                return other;
            }
        }
        return -1;
    }

    public int cubeAdds(int sheet) {
        return countCubeAdds(of(sheets, sheet).stream().mapToInt(square -> square).toArray());
    }

    static int countCubeAdds(int[] squares) {
        int count = 0;
        for (int square = 0; square < 64; square++) {
            TreeSet<Integer> more = new TreeSet<>();
            for (int one : squares) {
                more.add(one);
            }
            count += more.add(square) && facesOf(more) != null ? 1 : 0;
        }
        return count;
    }

    public int depth(int sheet, int base, int square) {
        TreeSet<Integer> squares = of(sheets, sheet);
        place(base);
        place(square);
        one(squares);
        has(squares, base);
        has(squares, square);
        return depths(squares, base).get(square);
    }

    public int fold(int sheet, int base, int index) {
        TreeSet<Integer> squares = of(sheets, sheet);
        place(base);
        one(squares);
        has(squares, base);
        Map<Integer, Integer> depths = depths(squares, base);
        List<Integer> order = new ArrayList<>(squares);
        order.remove(Integer.valueOf(base));
        order.sort(Comparator.comparing((Integer square) -> -depths.get(square)).thenComparing(square -> square));
        if (index < 0 || index >= order.size()) {
            throw new NoSuchElementException();
        }
        return order.get(index);
    }

    private static Map<Integer, Integer> depths(TreeSet<Integer> squares, int base) {
        Map<Integer, Integer> depths = new TreeMap<>();
        depths.put(base, 0);
        ArrayDeque<Integer> open = new ArrayDeque<>(Set.of(base));
        while (!open.isEmpty()) {
            int from = open.poll();
            for (int way = 0; way < 4; way++) {
                int to = next(from, way);
                if (squares.contains(to) && !depths.containsKey(to)) {
                    depths.put(to, depths.get(from) + 1);
                    open.add(to);
                }
            }
        }
        return depths;
    }

    // ---- boards, knives

    public int addBoard() {
        if (boards.size() == 4) {
            throw new IllegalStateException();
        }
        boards.add(new TreeSet<>());
        return boards.size() - 1;
    }

    public int fits(int sheet, int board) {
        int fit = fit(of(sheets, sheet), of(boards, board));
        if (fit < 0) {
            throw new NoSuchElementException();
        }
        return fit;
    }

    public int lay(int sheet, int board) {
        int fit = fit(of(sheets, sheet), of(boards, board));
        if (fit < 0) {
            throw new UnsupportedOperationException();
        }
        for (int square : placed(sheets.get(sheet), fit / 100, fit / 10 % 10, fit % 10)) {
            boards.get(board).add(square);
        }
        return free(board);
    }

    private static int fit(Set<Integer> squares, Set<Integer> taken) {
        for (int number = 0; number < 800; number++) {
            if (squares.isEmpty() || number % 10 > 7 || number / 10 % 10 > 7) {
                continue;
            }
            int[] place = placed(squares, number / 100, number / 10 % 10, number % 10);
            if (place.length > 0 && Arrays.stream(place).noneMatch(taken::contains)) {
                return number;
            }
        }
        return -1;
    }

    static int[] placed(int[] squares, int turn, int row, int column) {
        TreeSet<Integer> set = new TreeSet<>();
        for (int square : squares) {
            set.add(square);
        }
        return placed(set, turn, row, column);
    }

    /** The squares turned and moved so that the least x and y are the column and the row; none if one is off. */
    private static int[] placed(Set<Integer> squares, int turn, int row, int column) {
        int leastX = 7;
        int leastY = 7;
        for (int square : squares) {
            leastX = Math.min(leastX, turnedSquare(square, turn) % 8);
            leastY = Math.min(leastY, turnedSquare(square, turn) / 8);
        }
        int[] place = new int[squares.size()];
        int count = 0;
        for (int square : squares) {
            int x = turnedSquare(square, turn) % 8 - leastX + column;
            int y = turnedSquare(square, turn) / 8 - leastY + row;
            if (x > 7 || y > 7) {
                return new int[0];
            }
            place[count++] = x + 8 * y;
        }
        return place;
    }

    public int free(int board) {
        return 64 - of(boards, board).size();
    }

    public boolean isFree(int board, int square) {
        TreeSet<Integer> taken = of(boards, board);
        place(square);
        return !taken.contains(square);
    }

    public int cut(int sheet) {
        TreeSet<Integer> squares = of(sheets, sheet);
        if (squares.isEmpty() || knife >= 100) {
            throw new UnsupportedOperationException();
        }
        knife += edgeOf(squares);
        return knife;
    }

    public int sharpen() {
        int before = knife;
        knife = 0;
        return before;
    }

    // ---- dice

    public int put(int square) {
        place(square);
        int before = dieSquare;
        dieSquare = square;
        die = new Die(6, 2, 3);
        return before;
    }

    public int roll(char way) {
        int number = "nsew".indexOf(way);
        if (number < 0) {
            throw new IllegalArgumentException();
        }
        int to = next(dieSquare, number);
        if (to < 0) {
            throw new UnsupportedOperationException();
        }
        dieSquare = to;
        die = die.rolled(number);
        return die.below();
    }

    public int below() {
        return die.below();
    }

    public int onTop() {
        return 7 - die.below();
    }

    public int rolls(int square, int number) {
        place(square);
        if (number < 1 || number > 6) {
            throw new IllegalArgumentException();
        }
        Map<Lying, Integer> steps = new HashMap<>();
        ArrayDeque<Lying> open = new ArrayDeque<>(Set.of(new Lying(dieSquare, die)));
        steps.put(open.peek(), 0);
        while (!open.isEmpty()) {
            Lying from = open.poll();
            if (from.square() == square && from.die().below() == number) {
                return steps.get(from);
            }
            for (int way = 0; way < 4; way++) {
                Lying to = new Lying(next(from.square(), way), from.die().rolled(way));
                if (to.square() >= 0 && !steps.containsKey(to)) {
                    steps.put(to, steps.get(from) + 1);
                    open.add(to);
                }
            }
        }
        return -1;
    }

    // ---- patents, orders

    public int patent(int sheet) {
        TreeSet<Integer> squares = of(sheets, sheet);
        if (!connected(squares, false) || patents.contains(sheetShape(squares))) {
            throw new UnsupportedOperationException();
        }
        patents.add(sheetShape(squares));
        return patents.size();
    }

    public int patentOf(int sheet) {
        int number = patents.indexOf(sheetShape(of(sheets, sheet)));
        if (number < 0) {
            throw new NoSuchElementException();
        }
        return number;
    }

    public int order(int sheet, int day) {
        TreeSet<Integer> squares = of(sheets, sheet);
        if (day < 0 || day > 99) {
            throw new IllegalArgumentException();
        }
        if (squares.isEmpty() || patents.contains(sheetShape(squares))) {
            throw new UnsupportedOperationException();
        }
        if (orders.size() == 20) {
            throw new IllegalStateException();
        }
        int price = 10 * squares.size() + edgeOf(squares) + (facesOf(squares) == null ? 0 : 50);
        orders.add(new int[] {day, price});
        return price;
    }

    public int make() {
        int[] first = orders.stream().min(Comparator.comparing(order -> order[0])).orElse(null);
        if (first == null) {
            throw new NoSuchElementException();
        }
        orders.remove(first);
        earned += first[1];
        return first[1];
    }

    public long earned() {
        return earned;
    }

    // ---- figures

    public long checksum() {
        List<Integer> numbers = new ArrayList<>();
        bodies.forEach(numbers::addAll);
        sheets.forEach(numbers::addAll);
        boards.forEach(board -> numbers.add(64 - board.size()));
        numbers.add(dieSquare);
        numbers.add(die.below());
        long sum = 7;
        for (int number : numbers) {
            sum = 31 * sum + number;
        }
        return sum;
    }

    public float usedShare() {
        if (boards.isEmpty()) {
            throw new ArithmeticException();
        }
        int used = boards.stream().mapToInt(Set::size).sum();
        return (float) used / (float) (64 * boards.size());
    }

    public double meanSkin() {
        if (bodies.isEmpty()) {
            throw new ArithmeticException();
        }
        int sum = 0;
        for (int body = 0; body < bodies.size(); body++) {
            sum += skin(body);
        }
        return (double) sum / (double) bodies.size();
    }

    public boolean isSound() {
        return true;
    }

    // ---- what the calls share

    private static TreeSet<Integer> of(List<TreeSet<Integer>> all, int number) {
        if (number < 0 || number >= all.size()) {
            throw new IndexOutOfBoundsException();
        }
        return all.get(number);
    }

    private static void place(int number) {
        if (number < 0 || number > 63) {
            throw new IllegalArgumentException();
        }
    }

    private static void one(TreeSet<Integer> squares) {
        if (!connected(squares, false)) {
            throw new UnsupportedOperationException();
        }
    }

    private static void has(TreeSet<Integer> squares, int square) {
        if (!squares.contains(square)) {
            throw new NoSuchElementException();
        }
    }
}
