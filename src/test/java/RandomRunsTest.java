import java.lang.reflect.InvocationTargetException;
import java.lang.reflect.Method;
import java.util.ArrayList;
import java.util.Arrays;
import java.util.List;
import java.util.Random;

/** Runs of calls chosen by fixed seeds, each held against NaiveFabric, and what can be seen behind each. */
public final class RandomRunsTest {
    /** A method, how often it is chosen, and a letter for what each of its arguments is. */
    private static final String[] CALLS = {
        "square 1 4 4 5", "interval 2 i", "kill 2 c", "heal 3 c", "cut 3 c w", "mend 3 c w",
        "bank 3 a b", "set 4 a p v", "get 1 a p", "load 8 a s p", "store 8 a s p n d",
        "constant 3 v", "round 3", "two 12 k n d n d", "choice 4 n n n", "feed 8 n o n d",
        "first 4 n v", "clear 1", "nodes 1", "bars 30 n c t", "place 30 n c t", "lift 12 n",
        "map 12", "cellOf 1 n", "timeOf 1 n", "at 1 c r", "routes 1", "length 2 n o",
        "step 2 n o e", "held 2 c r", "isTaken 2 c w r", "least 6", "run 6 u", "energy 2",
        "would 3 u a p", "number 4 n q", "checksum 1", "share 1", "meanLength 2", "isSound 3"};

    private final Random random;
    private final Fabricmap real = new Fabricmap();
    private final NaiveFabric naive = new NaiveFabric();
    private final List<String> told = new ArrayList<>();
    private int side = 9;

    private RandomRunsTest(long seed) {
        random = new Random(seed);
    }

    public static void main(String[] args) {
        int runs = args.length > 0 ? Integer.parseInt(args[0]) : 400;
        long from = args.length > 1 ? Long.parseLong(args[1]) : 1L;
        Check check = new Check();
        for (long seed = from; seed < from + runs; seed++) {
            long chosen = seed;
            check.due("run of seed " + seed, "fine", () -> new RandomRunsTest(chosen).runAll());
        }
        check.end("RandomRunsTest");
    }

    private String runAll() {
        begin();
        for (int call = 0; call < 150; call++) {
            String[] words = choose();
            Object[] arguments = new Object[words.length - 2];
            for (int i = 0; i < arguments.length; i++) {
                arguments[i] = argument(words[i + 2]);
            }
            if (!same(words[0], arguments) || !looksSame()) {
                return "wrong behind " + told;
            }
        }
        return "fine";
    }

    /** Most squares are made small and poor, so that routes are in each other's way. */
    private void begin() {
        same("square", 1 + random.nextInt(4), 1 + random.nextInt(4), random.nextInt(3));
        same("interval", 1 + random.nextInt(random.nextBoolean() ? 3 : 8));
        int nodes = random.nextInt(13);
        boolean manyStores = random.nextInt(4) == 0;
        same("round");
        same("load", random.nextInt(2), random.nextInt(7) - 3, random.nextInt(4));
        for (int i = 2; i < nodes; i++) {
            int one = manyStores ? 0 : random.nextInt(i);
            int other = random.nextInt(i);
            if (manyStores && random.nextInt(3) == 0) {
                same("load", random.nextInt(2), random.nextInt(7) - 3, random.nextInt(16));
            } else if (manyStores || random.nextInt(4) == 0) {
                same("store", random.nextInt(3), random.nextInt(7) - 3, random.nextInt(16), one, random.nextInt(4));
            } else {
                same("two", "+-*m<".charAt(random.nextInt(5)), one, random.nextInt(2), other, random.nextInt(2));
            }
        }
    }

    private String[] choose() {
        int sum = 0;
        for (String call : CALLS) {
            sum += Integer.parseInt(call.split(" ")[1]);
        }
        int left = random.nextInt(sum);
        for (String call : CALLS) {
            left -= Integer.parseInt(call.split(" ")[1]);
            if (left < 0) {
                return call.split(" ");
            }
        }
        throw new IllegalStateException();
    }

    private Object argument(String letter) {
        int nodes = Math.max(1, naive.nodes());
        switch (letter) {
            case "k": return random.nextInt(20) == 0 ? (char) random.nextInt(256) : "+-*m<".charAt(random.nextInt(5));
            case "w": return random.nextInt(20) == 0 ? (char) random.nextInt(256) : "nesw".charAt(random.nextInt(4));
            case "v": return random.nextInt(4) == 0 ? random.nextInt() : random.nextInt(9) - 4;
            case "4": return within(1, 4);
            case "5": return within(0, 4);
            case "i": return within(1, 8);
            case "c": return within(0, side - 1);
            case "a": return within(0, 3);
            case "b": return within(0, 1);
            case "p": return within(0, 15);
            case "s": return within(-3, 3);
            case "n": return within(0, nodes - 1);
            case "d": return within(0, 3);
            case "o": return within(0, 2);
            case "t": return random.nextInt(3) == 0 ? within(0, 31) : within(0, 9);
            case "r": return within(0, 7);
            case "e": return within(0, 7);
            case "u": return within(1, 16);
            case "q": return within(0, 15);
            default: throw new IllegalStateException(letter);
        }
    }

    private int within(int low, int high) {
        if (random.nextInt(60) == 0) {
            int[] out = {low - 1, high + 1, Integer.MIN_VALUE, Integer.MAX_VALUE};
            return out[random.nextInt(4)];
        }
        return low + random.nextInt(high - low + 1);
    }

    private boolean same(String name, Object... arguments) {
        String due = answer(naive, name, arguments);
        String got = answer(real, name, arguments);
        told.add(name + Arrays.toString(arguments) + " = " + got);
        if (name.equals("square") && !due.startsWith("throws")) {
            side = (Integer) arguments[0] * (Integer) arguments[1];
        }
        if (!due.equals(got)) {
            told.add("due is " + due);
        }
        return due.equals(got);
    }

    private static String answer(Object object, String name, Object... arguments) {
        for (Method method : object.getClass().getMethods()) {
            if (method.getName().equals(name) && method.getParameterCount() == arguments.length
                    && method.getDeclaringClass() == object.getClass()) {
                try {
                    return String.valueOf(method.invoke(object, arguments));
                } catch (InvocationTargetException e) {
                    return "throws." + e.getCause().getClass().getSimpleName();
                } catch (IllegalAccessException e) {
                    throw new IllegalStateException(e);
                }
            }
        }
        throw new IllegalStateException(name);
    }

    /** All that shows the state, so that a call which throws and yet changes something is seen at once. */
    private boolean looksSame() {
        String got = look(real::cellOf, real::timeOf, real::step, real::held);
        String due = look(naive::cellOf, naive::timeOf, naive::step, naive::held);
        boolean same = got.equals(due) && real.checksum() == naive.checksum() && real.routes() == naive.routes()
                && real.energy() == naive.energy() && real.nodes() == naive.nodes();
        if (!same) {
            told.add("looks " + got + ", due is " + due);
        }
        return same;
    }

    private interface One {
        int of(int node);
    }

    private interface Step {
        char of(int node, int operand, int beat);
    }

    private interface Held {
        int of(int cell, int rest);
    }

    private String look(One cell, One time, Step step, Held held) {
        StringBuilder text = new StringBuilder();
        for (int node = 0; node < naive.nodes(); node++) {
            int n = node;
            text.append(' ').append(Check.answerOf(() -> cell.of(n)).replace("throws.NoSuchElementException", "-"));
            text.append(':').append(Check.answerOf(() -> time.of(n)).replace("throws.NoSuchElementException", "-"));
            for (int operand = 0; operand < 3; operand++) {
                text.append(',');
                for (int beat = 0; beat < 9; beat++) {
                    int o = operand;
                    int b = beat;
                    String letter = Check.answerOf(() -> step.of(n, o, b));
                    if (letter.length() > 1) {
                        break;
                    }
                    text.append(letter);
                }
            }
        }
        for (int c = 0; c < side; c++) {
            text.append(' ').append(held.of(c, 0));
        }
        return text.toString();
    }
}
