import java.lang.reflect.InvocationTargetException;
import java.lang.reflect.Method;
import java.util.ArrayList;
import java.util.Arrays;
import java.util.List;
import java.util.Random;

/** Runs of calls chosen by fixed seeds, each held against NaiveFabric, and what can be seen behind each. */
public final class RandomRunsTest {
    /** A method, how often it is chosen, and a letter for what each of its arguments is. */
    private static final String[] CALLS = {
        "square 1 4 4 5", "interval 2 i", "kill 2 c", "heal 3 c", "cut 3 c w", "mend 3 c w",
        "bank 3 a b", "set 4 a p v", "get 1 a p", "load 8 a s p", "store 8 a s p n d",
        "constant 3 v", "round 3", "two 12 k n d n d", "choice 4 n n n", "feed 8 n o n d",
        "first 4 n v", "clear 1", "nodes 1", "bars 30 n c t", "place 30 n c t", "lift 12 n",
        "map 12", "cellOf 1 n", "timeOf 1 n", "at 1 c r", "routes 1", "length 2 n o",
        "step 2 n o e", "held 2 c r", "isTaken 2 c w r", "least 6", "run 6 u", "energy 2",
        "would 3 u a p", "number 4 n q", "checksum 1", "share 1", "meanLength 2", "isSound 3"};

    /**
     * With the calls ahead of them, 14 at most, and a look of at most 368 (29 for each of 12 nodes, 16 cells,
     * 4 sums), no object comes to more than the 512 calls behind which its answers are free.
     */
    private static final int CALLS_OF_A_RUN = 120;
    private static final int CALLS_BETWEEN_LOOKS = 10;

    private final Random random;
    private final Fabricmap real = new Fabricmap();
    private final NaiveFabric naive = new NaiveFabric();
    private final List<String> names = new ArrayList<>();
    private final List<Object[]> rows = new ArrayList<>();
    private final List<String> told = new ArrayList<>();
    private int side = 9;
    private boolean wasRefused;

    private RandomRunsTest(long seed) {
        random = new Random(seed);
    }

    public static void main(String[] args) {
        int runs = args.length > 0 ? Integer.parseInt(args[0]) : 400;
        long from = args.length > 1 ? Long.parseLong(args[1]) : 1L;
        Check check = new Check();
        for (long seed = from; seed < from + runs; seed++) {
            long chosen = seed;
            check.due("run of seed " + seed, "fine", () -> new RandomRunsTest(chosen).runAll());
        }
        check.end("RandomRunsTest");
    }

    private String runAll() {
        begin();
        for (int call = 0; call < CALLS_OF_A_RUN; call++) {
            String[] words = choose();
            Object[] arguments = new Object[words.length - 2];
            for (int i = 0; i < arguments.length; i++) {
                arguments[i] = argument(words[i + 2]);
            }
            boolean same = same(words[0], arguments);
            boolean mustLook = wasRefused || call % CALLS_BETWEEN_LOOKS == 0;
            if (!same || mustLook && !looksSame()) {
                return "wrong behind " + told;
            }
        }
        return "fine";
    }

    /** Most squares are made small and poor, so that routes are in each other's way. */
    private void begin() {
        same("square", 1 + random.nextInt(4), 1 + random.nextInt(4), random.nextInt(3));
        same("interval", 1 + random.nextInt(random.nextBoolean() ? 3 : 8));
        int nodes = random.nextInt(13);
        boolean manyStores = random.nextInt(4) == 0;
        same("round");
        same("load", random.nextInt(2), random.nextInt(7) - 3, random.nextInt(4));
        for (int i = 2; i < nodes; i++) {
            int one = manyStores ? 0 : random.nextInt(i);
            int other = random.nextInt(i);
            if (manyStores && random.nextInt(3) == 0) {
                same("load", random.nextInt(2), random.nextInt(7) - 3, random.nextInt(16));
            } else if (manyStores || random.nextInt(4) == 0) {
                same("store", random.nextInt(3), random.nextInt(7) - 3, random.nextInt(16), one, random.nextInt(4));
            } else {
                same("two", "+-*m<".charAt(random.nextInt(5)), one, random.nextInt(2), other, random.nextInt(2));
            }
        }
    }

    private String[] choose() {
        int sum = 0;
        for (String call : CALLS) {
            sum += Integer.parseInt(call.split(" ")[1]);
        }
        int left = random.nextInt(sum);
        for (String call : CALLS) {
            left -= Integer.parseInt(call.split(" ")[1]);
            if (left < 0) {
                return call.split(" ");
            }
        }
        throw new IllegalStateException();
    }

    private Object argument(String letter) {
        int nodes = Math.max(1, naive.nodes());
        switch (letter) {
            case "k": return random.nextInt(20) == 0 ? (char) random.nextInt(256) : "+-*m<".charAt(random.nextInt(5));
            case "w": return random.nextInt(20) == 0 ? (char) random.nextInt(256) : "nesw".charAt(random.nextInt(4));
            case "v": return random.nextInt(4) == 0 ? random.nextInt() : random.nextInt(9) - 4;
            case "4": return within(1, 4);
            case "5": return within(0, 4);
            case "i": return within(1, 8);
            case "c": return within(0, side - 1);
            case "a": return within(0, 3);
            case "b": return within(0, 1);
            case "p": return within(0, 15);
            case "s": return within(-3, 3);
            case "n": return within(0, nodes - 1);
            case "d": return within(0, 3);
            case "o": return within(0, 2);
            case "t": return random.nextInt(3) == 0 ? within(0, 31) : within(0, 9);
            case "r": return within(0, 7);
            case "e": return within(0, 7);
            case "u": return within(1, 16);
            case "q": return within(0, 15);
            default: throw new IllegalStateException(letter);
        }
    }

    private int within(int low, int high) {
        if (random.nextInt(60) == 0) {
            int[] out = {low - 1, high + 1, Integer.MIN_VALUE, Integer.MAX_VALUE};
            return out[random.nextInt(4)];
        }
        return low + random.nextInt(high - low + 1);
    }

    private boolean same(String name, Object... arguments) {
        String due = answer(naive, name, arguments);
        String got = answer(real, name, arguments);
        names.add(name);
        rows.add(arguments);
        told.add(name + Arrays.toString(arguments) + " = " + got);
        wasRefused = due.startsWith("throws");
        if (name.equals("square") && !wasRefused) {
            side = (Integer) arguments[0] * (Integer) arguments[1];
        }
        if (!due.equals(got)) {
            told.add("due is " + due);
        }
        return due.equals(got);
    }

    private static String answer(Object object, String name, Object... arguments) {
        for (Method method : object.getClass().getMethods()) {
            if (method.getName().equals(name) && method.getParameterCount() == arguments.length
                    && method.getDeclaringClass() == object.getClass()) {
                try {
                    return String.valueOf(method.invoke(object, arguments));
                } catch (InvocationTargetException e) {
                    return "throws." + e.getCause().getClass().getSimpleName();
                } catch (IllegalAccessException e) {
                    throw new IllegalStateException(e);
                }
            }
        }
        throw new IllegalStateException(name);
    }

    /** Looks at all that shows the state, upon an object of its own: looks are calls, too. */
    private boolean looksSame() {
        Fabricmap again = new Fabricmap();
        for (int call = 0; call < names.size(); call++) {
            answer(again, names.get(call), rows.get(call));
        }
        String got = look(again);
        String due = look(naive);
        if (!got.equals(due)) {
            told.add("looks " + got + ", due is " + due);
        }
        return got.equals(due);
    }

    private String look(Object object) {
        StringBuilder text = new StringBuilder();
        for (String sum : new String[] {"routes", "energy", "nodes", "checksum"}) {
            text.append(' ').append(answer(object, sum));
        }
        for (int node = 0; node < naive.nodes(); node++) {
            text.append(' ').append(answer(object, "cellOf", node).replace("throws.NoSuchElementException", "-"));
            text.append(':').append(answer(object, "timeOf", node).replace("throws.NoSuchElementException", "-"));
            for (int operand = 0; operand < 3; operand++) {
                text.append(',').append(route(object, node, operand));
            }
        }
        for (int cell = 0; cell < side; cell++) {
            text.append(' ').append(answer(object, "held", cell, 0));
        }
        return text.toString();
    }

    private static String route(Object object, int node, int operand) {
        String length = answer(object, "length", node, operand);
        if (length.startsWith("throws")) {
            return "";
        }
        StringBuilder text = new StringBuilder(length);
        for (int beat = 0; beat < Integer.parseInt(length); beat++) {
            text.append(answer(object, "step", node, operand, beat));
        }
        return text.toString();
    }
}
