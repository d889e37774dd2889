import java.lang.reflect.InvocationTargetException;
import java.lang.reflect.Method;
import java.util.ArrayList;
import java.util.Arrays;
import java.util.Comparator;
import java.util.List;
import java.util.Random;

/** Runs of chosen calls, the same each time, on the works and on the model. */
final class ModelTest {

    private static final int RUNS = 300;
    private static final int CALLS = 512;
    private static final int[] ODD = {-1, 64, 100, 8, 4, Integer.MIN_VALUE, Integer.MAX_VALUE, 65536};

    private final Check check;
    private final Random random;
    private final int run;
    private final CubefoldWorks works = new CubefoldWorks();
    private final Model model = new Model();
    private final List<Method> methods = new ArrayList<>();
    private final int wide;
    private int calls;
    private boolean right = true;

    private ModelTest(Check check, int run) {
        this.check = check;
        this.run = run;
        this.random = new Random(run);
        this.wide = 2 + random.nextInt(7);
        for (Method method : Model.class.getDeclaredMethods()) {
            if (java.lang.reflect.Modifier.isPublic(method.getModifiers())) {
                methods.add(method);
            }
        }
        methods.sort(Comparator.comparing(Method::getName));
    }

    static void run(Check check) {
        check.promise(0);
        for (int run = 0; run < RUNS; run++) {
            new ModelTest(check, run).compare();
        }
    }

    private void compare() {
        check.due("the calls of the face", 42, methods::size);
        for (int first = random.nextInt(4); first >= 0; first--) {
            callNamed("addBody", place());
            callNamed("addSheet");
            callNamed("addBoard");
        }
        while (right && calls < CALLS) {
            step();
        }
    }

    private void step() {
        int kind = random.nextInt(20);
        if (kind == 0) {
            drawNet();
        } else if (kind < 3) {
            drawSheet();
        } else if (kind < 5) {
            growBody();
        } else {
            Method method = methods.get(random.nextInt(methods.size()));
            Object[] arguments = new Object[method.getParameterCount()];
            for (int index = 0; index < arguments.length; index++) {
                arguments[index] = argument(method.getParameterTypes()[index], index);
            }
            call(method, arguments);
        }
    }

    /** A net at any turn, sometimes with one square more or less, and what is asked of it. */
    private void drawNet() {
        int sheet = sheet();
        int turn = random.nextInt(8);
        int[] net = Build.squaresOf(Build.NETS[random.nextInt(Build.NETS.length)], random.nextInt(4),
                random.nextInt(5));
        clear(sheet);
        for (int square : net) {
            callNamed("set", sheet, Model.turnedSquare(square, turn), true);
        }
        int square = Model.turnedSquare(net[random.nextInt(6)], turn);
        callNamed("set", sheet, square, random.nextInt(4) > 0);
        callNamed("folds", sheet);
        callNamed("cubeAdds", sheet);
        callNamed("opposite", sheet, square);
        callNamed("order", sheet, random.nextInt(3));
    }

    /** Squares drawn from one to the next, so that the sheet is mostly one, and what is asked of it. */
    private void drawSheet() {
        int sheet = sheet();
        if (random.nextInt(3) > 0) {
            clear(sheet);
        }
        int square = random.nextInt(wide) + 8 * random.nextInt(wide);
        for (int many = random.nextInt(2 * wide); many >= 0; many--) {
            int next = Model.next(square, random.nextInt(4));
            square = next < 0 ? square : next;
            callNamed("set", sheet, square, random.nextInt(8) > 0);
        }
        callNamed("isOne", sheet);
        callNamed("ways", sheet);
        callNamed("fold", sheet, ownSquare(sheet), random.nextInt(8));
        callNamed("depth", sheet, ownSquare(sheet), ownSquare(sheet));
        callNamed("cubeAdds", sheet);
        callNamed("fits", sheet, random.nextInt(3));
        if (random.nextInt(2) == 0) {
            callNamed("lay", sheet, random.nextInt(2));
        }
        if (random.nextInt(3) == 0) {
            callNamed("patent", sheet);
        }
        drawAlike(sheet);
    }

    /** The squares of a sheet on another one, turned, and sometimes with one more or less. */
    private void drawAlike(int sheet) {
        int other = sheet();
        int turn = random.nextInt(8);
        List<Integer> squares = own(sheet);
        if (other == sheet || squares.size() > 12) {
            return;
        }
        clear(other);
        for (int square : squares) {
            callNamed("set", other, Model.turnedSquare(square, turn), true);
        }
        if (random.nextInt(3) == 0) {
            callNamed("set", other, ownSquare(other), false);
        }
        callNamed("areLike", sheet, other);
        callNamed("patentOf", other);
        callNamed("patent", other);
        for (int many = random.nextInt(8); many > 0; many--) {
            callNamed("order", random.nextInt(8), random.nextInt(4));
        }
    }

    private void growBody() {
        callNamed("addBody", place());
        int body = random.nextInt(4);
        for (int many = random.nextInt(20); many >= 0; many--) {
            callNamed("addCube", body, place());
        }
        callNamed("areMirrored", body, random.nextInt(4));
        callNamed("areAlike", body, random.nextInt(4));
        callNamed("takeCube", body, place());
    }

    private void clear(int sheet) {
        for (int square : own(sheet)) {
            callNamed("set", sheet, square, false);
        }
    }

    private List<Integer> own(int sheet) {
        List<Integer> squares = new ArrayList<>();
        for (int square = 0; square < 64; square++) {
            if (has(sheet, square)) {
                squares.add(square);
            }
        }
        return squares;
    }

    private int ownSquare(int sheet) {
        List<Integer> squares = own(sheet);
        return squares.isEmpty() || random.nextInt(9) == 0 ? random.nextInt(64)
                : squares.get(random.nextInt(squares.size()));
    }

    private boolean has(int sheet, int square) {
        boolean had = model.set(sheet, square, true);
        model.set(sheet, square, had);
        return had;
    }

    /** One of the sheets, of which there are a few at first and then more. */
    private int sheet() {
        if (random.nextInt(8) == 0) {
            callNamed("addSheet");
        }
        int count = 1;
        while (count < 8 && has(count)) {
            count++;
        }
        return random.nextInt(count);
    }

    private boolean has(int sheet) {
        return !(Check.outcome(() -> model.squares(sheet)) instanceof Class);
    }

    private int place() {
        return random.nextInt(3) == 0 ? random.nextInt(64) : random.nextInt(2) + 4 * random.nextInt(2)
                + 16 * random.nextInt(2);
    }

    private Object argument(Class<?> type, int index) {
        if (type == boolean.class) {
            return random.nextBoolean();
        }
        if (type == char.class) {
            return random.nextInt(12) == 0 ? (char) random.nextInt(256) : "nsew".charAt(random.nextInt(4));
        }
        if (random.nextInt(20) == 0) {
            return ODD[random.nextInt(ODD.length)];
        }
        if (random.nextInt(3) == 0) {
            return index == 0 ? random.nextInt(4) : random.nextInt(wide) + 8 * random.nextInt(wide);
        }
        return random.nextInt(index == 0 ? 6 : 8);
    }

    private void callNamed(String name, Object... arguments) {
        for (Method method : methods) {
            if (method.getName().equals(name)) {
                call(method, arguments);
            }
        }
    }

    private void call(Method method, Object[] arguments) {
        if (!right || calls >= CALLS) {
            return;
        }
        calls++;
        Object want = outcome(model, method, arguments);
        Object got = outcome(works, sameMethod(method), arguments);
        right = want.equals(got);
        check.due("run " + run + " call " + calls + " " + method.getName() + Arrays.toString(arguments), want,
                () -> got);
    }

    private static Method sameMethod(Method method) {
        try {
            return CubefoldWorks.class.getMethod(method.getName(), method.getParameterTypes());
        } catch (NoSuchMethodException e) {
            throw new IllegalStateException(e);
        }
    }

    private static Object outcome(Object target, Method method, Object[] arguments) {
        try {
            return method.invoke(target, arguments);
        } catch (InvocationTargetException e) {
            return e.getCause().getClass();
        } catch (IllegalAccessException e) {
            throw new IllegalStateException(e);
        }
    }
}
