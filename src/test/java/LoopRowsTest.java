import java.io.IOException;
import java.nio.file.Files;
import java.nio.file.Path;

/** A test for each row of the promises 11 to 20: the nodes and their operands. */
public final class LoopRowsTest {
    private static final String INDEX = "IndexOutOfBoundsException";
    private static final String ARGUMENT = "IllegalArgumentException";
    private static final String STATE = "IllegalStateException";
    private static final String UNSUPPORTED = "UnsupportedOperationException";
    private static final int LOW = Scenes.LOW;
    private static final int HIGH = Scenes.HIGH;
    private static final Check C = new Check();
    private static Sentences sentences;
    private static String heading;

    /** Takes the document's path. */
    public static void main(String[] args) throws IOException {
        sentences = new Sentences(C, Files.readString(Path.of(args[0])), "## Promise 11:", "## Promise 21:");
        load();
        store();
        constant();
        round();
        two();
        choice();
        feed();
        first();
        clear();
        nodes();
        sentences.end("## ", "`");
        C.end("LoopRowsTest");
    }

    private static void promise(int number) {
        heading = "## Promise " + number + ":";
    }

    private static void says(String words) {
        sentences.says(heading, words);
    }

    private static void refused(String what, String exception, Check.CallOn call) {
        C.refused(what, exception, Scenes::rich, call);
    }

    private static void refusedOfTwelve(String what, String exception, Check.CallOn call) {
        C.refused(what + ", there being 12 nodes", exception, Scenes::twelve, call);
    }

    /** Eleven nodes and a last one to be added. */
    private static Fabricmap eleven() {
        Fabricmap x = new Fabricmap();
        for (int number = 0; number < 11; number++) {
            x.constant(number);
        }
        return x;
    }

    private static Fabricmap filled() {
        Fabricmap x = new Fabricmap();
        for (int array = 0; array < 4; array++) {
            for (int place = 0; place < 16; place++) {
                x.set(array, place, 100 * array + place);
            }
        }
        return x;
    }

    private static void load() {
        promise(11);
        says("Adds a load.");
        Fabricmap x = filled();
        x.load(1, 0, 9);
        C.due("it loads", 109, () -> x.number(0, 0));
        C.due("it is at the edge alone", 'e', () -> x.bars(0, 1, 0));
        C.due("it is not placed yet", "throws.NoSuchElementException", () -> x.timeOf(0));
        C.index("it has no operand", () -> x.length(0, 0));
        C.due("it has the first number 0", 0, () -> x.first(0, 0));
        says("- `array`: 0 to 3");
        C.due("array 0", 9, () -> x.number(x.load(0, 0, 9), 0));
        C.due("array 3", 309, () -> x.number(x.load(3, 0, 9), 0));
        for (int array : Scenes.outside(0, 3)) {
            refused("array " + array, ARGUMENT, y -> y.load(array, 1, 1));
        }
        says("- `stride`: -3 to 3");
        int[] due = {208, 207, 206, 205, 204, 203, 202};
        for (int stride = -3; stride <= 3; stride++) {
            int s = stride;
            C.due("stride " + stride + " in the last round", due[s + 3], () -> x.number(x.load(2, s, 5), 15));
        }
        for (int stride : Scenes.outside(-3, 3)) {
            refused("stride " + stride, ARGUMENT, y -> y.load(0, stride, 1));
        }
        says("- `offset`: 0 to 15");
        Fabricmap z = filled();
        C.due("offset 0", 300, () -> z.number(z.load(3, 3, 0), 0));
        C.due("offset 15", 315, () -> z.number(z.load(3, -3, 15), 0));
        for (int offset : Scenes.outside(0, 15)) {
            refused("offset " + offset, ARGUMENT, y -> y.load(0, 1, offset));
        }
        says("Returns the number of the node.");
        C.due("the first one", 0, () -> new Fabricmap().load(0, 0, 0));
        C.due("the seventh one", 6, () -> Scenes.rich().load(0, 0, 0));
        C.due("the last one", 11, () -> eleven().load(0, 0, 0));
        says("Throws `IllegalArgumentException` if a number is out of range");
        refused("all are wrong", ARGUMENT, y -> y.load(4, 4, 16));
        refusedOfTwelve("array 4", ARGUMENT, y -> y.load(4, 0, 0));
        refusedOfTwelve("stride 4", ARGUMENT, y -> y.load(0, 4, 0));
        refusedOfTwelve("offset 16", ARGUMENT, y -> y.load(0, 0, 16));
        says("Throws `IllegalStateException` if there are 12");
        refusedOfTwelve("a load", STATE, y -> y.load(0, 0, 0));
    }

    private static void store() {
        promise(12);
        says("Adds a store.");
        Fabricmap x = new Fabricmap();
        x.constant(77);
        x.store(1, 1, 4, 0, 0);
        C.due("it would store", 77, () -> x.would(1, 1, 4));
        C.due("it has what it stores", 77, () -> x.number(1, 0));
        C.due("it is at the edge alone", 'e', () -> x.bars(1, 1, 0));
        C.missing("it is not placed yet", () -> x.cellOf(1));
        C.missing("it has one operand", () -> x.length(1, 0));
        C.index("it has no second one", () -> x.length(1, 1));
        says("- `array`: 0 to 3");
        C.due("array 0", 77, () -> {
            x.store(0, 0, 3, 0, 0);
            return x.would(1, 0, 3);
        });
        C.due("array 3", 77, () -> {
            x.store(3, 0, 3, 0, 0);
            return x.would(1, 3, 3);
        });
        for (int array : Scenes.outside(0, 3)) {
            refused("array " + array, ARGUMENT, y -> y.store(array, 1, 1, 0, 0));
        }
        says("- `stride`: -3 to 3");
        int[] due = {8, 7, 6, 5, 4, 3, 2};
        for (int stride = -3; stride <= 3; stride++) {
            Fabricmap z = new Fabricmap();
            z.round();
            z.store(2, stride, 5, 0, 0);
            int place = due[stride + 3];
            C.due("stride " + stride + " in the last round", 15, () -> z.would(16, 2, place));
        }
        for (int stride : Scenes.outside(-3, 3)) {
            refused("stride " + stride, ARGUMENT, y -> y.store(0, stride, 1, 0, 0));
        }
        says("- `offset`: 0 to 15");
        Fabricmap w = new Fabricmap();
        w.constant(5);
        w.store(2, -1, 0, 0, 0);
        w.store(2, 1, 15, 0, 0);
        C.due("offset 0 and 15", 55, () -> 10 * w.would(1, 2, 0) + w.would(1, 2, 15));
        for (int offset : Scenes.outside(0, 15)) {
            refused("offset " + offset, ARGUMENT, y -> y.store(0, 1, offset, 0, 0));
        }
        says("- `node`: its operand");
        Fabricmap v = eleven();
        C.due("the last node there is", 10, () -> v.number(v.store(0, 0, 0, 10, 0), 0));
        C.due("the first node there is", 0, () -> Scenes.rich().store(0, 0, 0, 0, 0) - 6);
        says("- `distance`: 0 to 3");
        for (int distance = 0; distance <= 3; distance++) {
            Fabricmap z = new Fabricmap();
            z.round();
            z.store(0, 0, 0, 0, distance);
            z.first(0, -9);
            int d = distance;
            C.due("distance " + d + " in the round 3", 3 - d, () -> z.number(1, 3));
            C.due("distance " + d + " in the round 2", d < 3 ? 2 - d : -9, () -> z.number(1, 2));
        }
        for (int distance : Scenes.outside(0, 3)) {
            refused("distance " + distance, ARGUMENT, y -> y.store(0, 1, 1, 0, distance));
        }
        says("Returns the number of the node.");
        C.due("the seventh one", 6, () -> Scenes.rich().store(0, 0, 0, 5, 0));
        C.due("the last one", 11, () -> eleven().store(0, 0, 0, 0, 0));
        says("Throws `IndexOutOfBoundsException` if there is no such node as an operand");
        C.refused("no node at all", INDEX, Fabricmap::new, y -> y.store(0, 0, 0, 0, 0));
        for (int node : Scenes.outside(0, 5)) {
            refused("store of " + node, INDEX, y -> y.store(0, 0, 0, node, 0));
        }
        refused("store of itself to be, of the round ahead", INDEX, y -> y.store(0, 0, 0, 6, 1));
        refused("no such node, and no such array", INDEX, y -> y.store(4, 0, 0, 6, 0));
        refused("no such node, and no such stride", INDEX, y -> y.store(0, 4, 0, 6, 0));
        refused("no such node, and no such offset", INDEX, y -> y.store(0, 0, 16, 6, 0));
        refused("no such node, and no such distance", INDEX, y -> y.store(0, 0, 0, -1, 4));
        refusedOfTwelve("a store of no node", INDEX, y -> y.store(0, 0, 0, 12, 0));
        says("Throws `IllegalArgumentException` if a number is out of range");
        refused("all are wrong but the node", ARGUMENT, y -> y.store(-1, -4, -1, 5, -1));
        refusedOfTwelve("array 4", ARGUMENT, y -> y.store(4, 0, 0, 0, 0));
        refusedOfTwelve("stride 4", ARGUMENT, y -> y.store(0, 4, 0, 0, 0));
        refusedOfTwelve("offset 16", ARGUMENT, y -> y.store(0, 0, 16, 0, 0));
        refusedOfTwelve("distance 4", ARGUMENT, y -> y.store(0, 0, 0, 0, 4));
        says("Throws `IllegalStateException` if there are 12");
        refusedOfTwelve("a store", STATE, y -> y.store(0, 0, 0, 11, 3));
    }

    private static void constant() {
        promise(13);
        says("Adds a number.");
        Fabricmap x = new Fabricmap();
        x.constant(5);
        C.due("in the round 0", 5, () -> x.number(0, 0));
        C.due("in the round 15", 5, () -> x.number(0, 15));
        C.missing("it is not placed yet", () -> x.cellOf(0));
        C.index("it has no operand", () -> x.length(0, 0));
        says("- `number`: the number");
        for (int number : new int[] {0, -1, LOW, HIGH}) {
            C.due("number " + number, number, () -> x.number(x.constant(number), 3));
        }
        says("Returns the number of the node.");
        C.due("the first one", 0, () -> new Fabricmap().constant(0));
        C.due("the seventh one", 6, () -> Scenes.rich().constant(0));
        C.due("the last one", 11, () -> eleven().constant(0));
        says("Throws `IllegalStateException` if there are 12");
        refusedOfTwelve("a number", STATE, y -> y.constant(0));
    }

    private static void round() {
        promise(14);
        says("Adds the round.");
        Fabricmap x = new Fabricmap();
        x.round();
        C.due("in the round 0", 0, () -> x.number(0, 0));
        C.due("in the round 15", 15, () -> x.number(0, 15));
        C.missing("it is not placed yet", () -> x.cellOf(0));
        C.index("it has no operand", () -> x.length(0, 0));
        says("Returns the number of the node.");
        C.due("the first one", 0, () -> new Fabricmap().round());
        C.due("another round", 6, () -> Scenes.rich().round());
        C.due("the last one", 11, () -> eleven().round());
        says("Throws `IllegalStateException` if there are 12");
        refusedOfTwelve("the round", STATE, y -> y.round());
    }

    private static void two() {
        promise(15);
        says("Adds a node with two operands.");
        Fabricmap x = new Fabricmap();
        x.constant(7);
        x.constant(3);
        x.two('-', 0, 0, 1, 0);
        C.due("it takes the second from the first", 4, () -> x.number(2, 0));
        C.missing("it is not placed yet", () -> x.cellOf(2));
        C.missing("it has a second operand", () -> x.length(2, 1));
        C.index("it has no third one", () -> x.length(2, 2));
        says("- `kind`: '+', '-', '*', 'm' or '<'");
        int[] due = {10, 4, 21, 3, 0};
        for (int kind = 0; kind < 5; kind++) {
            char k = "+-*m<".charAt(kind);
            C.due("kind " + k, due[kind], () -> x.number(x.two(k, 0, 0, 1, 0), 0));
        }
        for (char kind : new char[] {'l', 's', 'k', 'i', '?', '.', ',', ')', '/', 'M', 'n', ';', '>', '=', 0, 255,
            '+' + 256, 0xFFFF}) {
            refused("kind " + (int) kind, ARGUMENT, y -> y.two(kind, 0, 0, 0, 0));
        }
        says("- `one`: the first operand");
        C.due("the last node there is", 10, () -> withEleven(10, 0));
        says("- `distance`: 0 to 3");
        for (int distance = 0; distance <= 3; distance++) {
            int d = distance;
            C.due("distance " + d + " in the round 3", 3 - d - 3, () -> farMinus(d, 0, 3));
            C.due("distance " + d + " in the round 2", (d < 3 ? 2 - d : -9) - 2, () -> farMinus(d, 0, 2));
        }
        for (int distance : Scenes.outside(0, 3)) {
            refused("distance " + distance, ARGUMENT, y -> y.two('+', 0, distance, 0, 0));
        }
        says("- `other`: the second operand");
        C.due("the last node there is", -10, () -> withEleven(0, 10));
        says("- `far`: 0 to 3, its distance");
        for (int far = 0; far <= 3; far++) {
            int f = far;
            C.due("far " + f + " in the round 3", f, () -> farMinus(0, f, 3));
            C.due("far " + f + " in the round 2", 2 - (f < 3 ? 2 - f : -9), () -> farMinus(0, f, 2));
        }
        for (int far : Scenes.outside(0, 3)) {
            refused("far " + far, ARGUMENT, y -> y.two('+', 0, 0, 0, far));
        }
        says("Returns the number of the node.");
        C.due("the seventh one", 6, () -> Scenes.rich().two('+', 5, 0, 5, 0));
        C.due("the last one", 11, () -> eleven().two('+', 0, 0, 0, 0));
        says("Throws `IndexOutOfBoundsException` if there is no such node as an operand, for either");
        C.refused("no node at all", INDEX, Fabricmap::new, y -> y.two('+', 0, 0, 0, 0));
        for (int node : Scenes.outside(0, 5)) {
            refused("one " + node, INDEX, y -> y.two('+', node, 0, 5, 0));
            refused("other " + node, INDEX, y -> y.two('+', 5, 0, node, 0));
        }
        refused("itself to be, of the round ahead", INDEX, y -> y.two('+', 6, 1, 0, 0));
        refused("itself to be, as the other", INDEX, y -> y.two('+', 0, 0, 6, 3));
        refused("no such node, and no such kind", INDEX, y -> y.two('q', 0, 0, 6, 0));
        refused("no such node, and no such distance", INDEX, y -> y.two('+', 0, 4, 6, 0));
        refused("no such node, and no such far", INDEX, y -> y.two('+', 6, 0, 0, 4));
        refusedOfTwelve("of no one", INDEX, y -> y.two('+', 12, 0, 0, 0));
        refusedOfTwelve("of no other", INDEX, y -> y.two('+', 0, 0, 12, 0));
        says("Throws `IllegalArgumentException` if there is no such kind, or a distance is out of range");
        refused("all are wrong but the nodes", ARGUMENT, y -> y.two('q', 0, -1, 0, -1));
        refusedOfTwelve("kind q", ARGUMENT, y -> y.two('q', 0, 0, 0, 0));
        refusedOfTwelve("distance 4", ARGUMENT, y -> y.two('+', 0, 4, 0, 0));
        refusedOfTwelve("far 4", ARGUMENT, y -> y.two('+', 0, 0, 0, 4));
        says("Throws `IllegalStateException` if there are 12");
        refusedOfTwelve("a node with two operands", STATE, y -> y.two('+', 11, 3, 11, 3));
    }

    private static int withEleven(int one, int other) {
        Fabricmap x = eleven();
        return x.number(x.two('-', one, 0, other, 0), 0);
    }

    /** The round so far ahead minus the round so far ahead, -9 where there was none. */
    private static int farMinus(int distance, int far, int round) {
        Fabricmap x = new Fabricmap();
        x.round();
        x.first(0, -9);
        x.two('-', 0, distance, 0, far);
        return x.number(1, round);
    }

    private static void choice() {
        promise(16);
        says("Adds a choice.");
        Fabricmap x = new Fabricmap();
        x.round();
        x.constant(20);
        x.constant(30);
        x.choice(0, 1, 2);
        C.due("in the round 0", 30, () -> x.number(3, 0));
        C.due("in the round 1", 20, () -> x.number(3, 1));
        C.missing("it is not placed yet", () -> x.cellOf(3));
        says("- `test`: the first operand, with the distance 0");
        C.due("test 1 is above 0", 30, () -> x.number(x.choice(1, 2, 0), 0));
        C.due("its operand is the test", 0, () -> x.feed(3, 0, 0, 1));
        C.due("as it was told now", 30, () -> x.number(3, 1));
        says("- `one`: the second operand, likewise");
        C.due("the operand 1 is the one", 1, () -> x.feed(3, 1, 0, 1));
        C.due("the round ahead", 1, () -> x.number(3, 2));
        says("- `other`: the third operand, likewise");
        C.due("the operand 2 is the other", 2, () -> x.feed(3, 2, 0, 3));
        C.index("there is no operand 3", () -> x.feed(3, 3, 0, 1));
        says("Returns the number of the node.");
        C.due("the fourth one", 3, () -> {
            Fabricmap y = new Fabricmap();
            y.round();
            y.constant(1);
            y.constant(2);
            return y.choice(2, 2, 2);
        });
        C.due("the last one", 11, () -> eleven().choice(10, 10, 10));
        says("Throws `IndexOutOfBoundsException` if there is no such node as an operand, for any");
        C.refused("no node at all", INDEX, Fabricmap::new, y -> y.choice(0, 0, 0));
        for (int node : Scenes.outside(0, 5)) {
            refused("test " + node, INDEX, y -> y.choice(node, 0, 0));
            refused("one " + node, INDEX, y -> y.choice(0, node, 0));
            refused("other " + node, INDEX, y -> y.choice(0, 0, node));
        }
        refusedOfTwelve("of no test", INDEX, y -> y.choice(12, 0, 0));
        refusedOfTwelve("of no one", INDEX, y -> y.choice(0, 12, 0));
        refusedOfTwelve("of no other", INDEX, y -> y.choice(0, 0, 12));
        says("Throws `IllegalStateException` if there are 12");
        refusedOfTwelve("a choice", STATE, y -> y.choice(11, 11, 11));
    }

    private static void feed() {
        promise(17);
        says("Lets an operand of a node come from another one of rounds ahead, or itself.");
        Fabricmap x = Scenes.summing(1);
        C.due("itself of the round ahead", 6, () -> x.number(1, 3));
        x.constant(50);
        x.feed(1, 0, 2, 1);
        C.due("another one, with a greater number", 150, () -> x.number(1, 3));
        says("- `node`: the node");
        C.due("the last one", 4, () -> Scenes.rich().feed(5, 0, 1, 1) - 1);
        C.due("a store", 0, () -> {
            Fabricmap y = new Fabricmap();
            y.round();
            y.store(0, 0, 0, 0, 0);
            return y.feed(1, 0, 1, 1);
        });
        says("- `operand`: 0 to 2");
        Fabricmap w = Scenes.twelve();
        w.clear();
        w.constant(1);
        w.constant(2);
        w.constant(3);
        w.choice(0, 1, 2);
        C.due("operand 0", 0, () -> w.feed(3, 0, 1, 1));
        C.due("operand 1", 1, () -> w.feed(3, 1, 2, 1));
        C.due("operand 2", 2, () -> w.feed(3, 2, 0, 1));
        C.due("operand 0 behind them", 1, () -> w.feed(3, 0, 0, 1));
        C.due("operand 1 behind them", 2, () -> w.feed(3, 1, 0, 1));
        says("- `other`: the other node, or the same");
        C.due("the last one of twelve", 11, () -> {
            Fabricmap y = eleven();
            y.two('+', 9, 0, 10, 0);
            y.feed(11, 1, 11, 1);
            return y.feed(11, 1, 0, 1);
        });
        C.due("a placed one may be the other", 5, () -> Scenes.rich().feed(5, 0, 3, 1));
        says("- `distance`: 1 to 3");
        for (int distance = 1; distance <= 3; distance++) {
            int d = distance;
            C.due("distance " + d + " in the round 3", 3 + (3 - d), () -> {
                Fabricmap y = new Fabricmap();
                y.round();
                y.two('+', 0, 0, 0, 0);
                y.feed(1, 1, 0, d);
                return y.number(1, 3);
            });
        }
        for (int distance : Scenes.outside(1, 3)) {
            refused("distance " + distance, ARGUMENT, y -> y.feed(5, 0, 0, distance));
        }
        says("Returns the node from which it came.");
        C.due("from a node", 2, () -> Scenes.rich().feed(5, 1, 0, 1));
        C.due("from itself", 5, () -> Scenes.rich().feed(5, 0, 0, 1));
        says("Throws `IndexOutOfBoundsException` if there is no such node, for either, or operand");
        for (int node : Scenes.outside(0, 5)) {
            refused("node " + node, INDEX, y -> y.feed(node, 0, 0, 1));
            refused("other " + node, INDEX, y -> y.feed(5, 0, node, 1));
        }
        for (int operand : Scenes.outside(0, 1)) {
            refused("operand " + operand, INDEX, y -> y.feed(5, operand, 0, 1));
        }
        refused("operand 3", INDEX, y -> y.feed(5, 3, 0, 1));
        refused("the operand of a load", INDEX, y -> y.feed(4, 0, 0, 1));
        C.refused("the operand of a number", INDEX, Scenes::twelve, y -> y.feed(11, 0, 0, 1));
        C.refused("the operand of a round", INDEX, () -> Scenes.summing(1), y -> y.feed(0, 0, 0, 1));
        refused("the second operand of a store, which is placed", INDEX, y -> y.feed(3, 1, 0, 1));
        refused("no such node, and no such distance", INDEX, y -> y.feed(6, 0, 0, 0));
        refused("no such operand, and no such distance", INDEX, y -> y.feed(5, 2, 0, 0));
        refused("no such other, and no such distance", INDEX, y -> y.feed(5, 0, 6, 4));
        refused("no such operand of a placed one", INDEX, y -> y.feed(2, 2, 0, 1));
        refused("no such other for a placed one", INDEX, y -> y.feed(2, 0, 6, 1));
        C.refused("no node at all", INDEX, Fabricmap::new, y -> y.feed(0, 0, 0, 1));
        says("Throws `IllegalArgumentException` if the distance is out of range");
        refused("the distance 0 to a lesser one", ARGUMENT, y -> y.feed(5, 0, 0, 0));
        refused("the distance 4 of a placed one", ARGUMENT, y -> y.feed(2, 0, 0, 4));
        says("Throws `UnsupportedOperationException` if the node is placed");
        refused("a placed sum", UNSUPPORTED, y -> y.feed(2, 0, 5, 1));
        refused("a placed store", UNSUPPORTED, y -> y.feed(3, 0, 2, 3));
        C.due("once it is lifted", 2, () -> {
            Fabricmap y = Scenes.rich();
            y.lift(3);
            return y.feed(3, 0, 0, 1);
        });
    }

    private static void first() {
        promise(18);
        says("Sets the first number of a node.");
        Fabricmap x = Scenes.summing(2);
        x.first(1, 100);
        C.due("in the round 0", 100, () -> x.number(1, 0));
        C.due("in the round 1", 101, () -> x.number(1, 1));
        C.due("in the round 2", 102, () -> x.number(1, 2));
        says("- `node`: the node");
        C.due("the first one of twelve", 0, () -> Scenes.twelve().first(0, 1));
        C.due("the last one of twelve", 0, () -> Scenes.twelve().first(11, 1));
        C.due("a placed one", 9, () -> Scenes.rich().first(2, 1));
        says("- `number`: the number");
        for (int number : new int[] {0, -1, HIGH, LOW}) {
            C.due("number " + number, number, () -> {
                x.first(1, number);
                return x.number(1, 0);
            });
        }
        says("Returns the one before.");
        C.due("the last one", LOW, () -> x.first(1, 1));
        C.due("the one behind it", 1, () -> x.first(1, 1));
        C.due("0 at first", 0, () -> x.first(0, 5));
        says("Throws `IndexOutOfBoundsException` if there is no such node");
        for (int node : Scenes.outside(0, 5)) {
            refused("node " + node, INDEX, y -> y.first(node, 3));
        }
        C.refused("no node at all", INDEX, Fabricmap::new, y -> y.first(0, 3));
    }

    private static void clear() {
        promise(19);
        says("Takes all nodes away.");
        Fabricmap x = Scenes.rich();
        long energy = x.energy();
        x.clear();
        C.due("no nodes", 0, () -> x.nodes());
        C.due("no routes", 0, () -> x.routes());
        C.index("no node 0", () -> x.cellOf(0));
        C.due("none is done", -1, () -> x.at(1, 0));
        C.due("no register is taken", 0, () -> x.held(1, 1));
        C.due("no wire is taken", false, () -> x.isTaken(1, 'w', 0));
        C.due("what was stored stays", 4, () -> x.get(0, 2));
        C.due("energy stays", energy, () -> x.energy());
        C.due("banks stay", 1, () -> x.bank(1, 1));
        C.due("the dead stay so", true, () -> x.heal(8));
        C.due("the cut stay so", true, () -> x.mend(5, 's'));
        C.due("the next one is 0", 0, () -> x.round());
        x.constant(1);
        x.constant(1);
        C.due("first numbers are new", 0, () -> x.first(2, 1));
        C.missing("none of them is placed", () -> x.cellOf(2));
        C.due("cells are free", '-', () -> x.bars(2, 1, 0));
        says("Returns how many there were.");
        C.due("none", 0, () -> new Fabricmap().clear());
        C.due("six, placed or not", 6, () -> Scenes.rich().clear());
        C.due("twelve", 12, () -> Scenes.twelve().clear());
        Fabricmap y = Scenes.twelve();
        y.clear();
        C.due("none the second time", 0, () -> y.clear());
        C.due("there is room again", 0, () -> y.load(0, 0, 0));
    }

    private static void nodes() {
        promise(20);
        says("Returns how many nodes there are.");
        C.due("none at first", 0, () -> new Fabricmap().nodes());
        C.due("twelve at most", 12, () -> Scenes.twelve().nodes());
        says("\nReturns how many.");
        Fabricmap x = Scenes.rich();
        C.due("placed or not", 6, () -> x.nodes());
        x.kill(0);
        x.lift(0);
        C.due("taken from their places, too", 6, () -> x.nodes());
        x.square(1, 1, 1);
        C.due("behind a new square, too", 6, () -> x.nodes());
    }
}
