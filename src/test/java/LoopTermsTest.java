import java.io.IOException;
import java.nio.file.Files;
import java.nio.file.Path;

/** A test for each sentence of the document's terms up to the loop: the square, the memories, the nodes. */
public final class LoopTermsTest {
    private static final String INDEX = "IndexOutOfBoundsException";
    private static final String ARGUMENT = "IllegalArgumentException";
    private static final int LOW = Scenes.LOW;
    private static final int HIGH = Scenes.HIGH;
    private static final String WAYS = "nesw";
    private static final Check C = new Check();
    private static Sentences sentences;

    /** Takes the document's path. */
    public static void main(String[] args) throws IOException {
        String document = Files.readString(Path.of(args[0]));
        sentences = new Sentences(C, document, "## Terms", "Placing. The interval");
        cells();
        registersAndWires();
        wounds();
        edge();
        memories();
        ints();
        twelveNodes();
        kinds();
        combining();
        placeInAnArray();
        operands();
        firstNumbers();
        lesserNumbers();
        byTheirNumbers();
        sentences.end("## ");
        sentences = new Sentences(C, document, "## What it is", "## The public face");
        manyCalls();
        sentences.end("## ", "Loops laid upon");
        C.end("LoopTermsTest");
    }

    private static void says(String words) {
        sentences.says("", words);
    }

    private static void cells() {
        says("The square. It has 1 to 4 by 1 to 4 cells, 3 by 3 at first, numbered from 0 row by row, x to the right, y"
                + " downward.");
        Fabricmap x = new Fabricmap();
        C.due("nine cells at first", -1, () -> x.at(8, 0));
        C.index("no more", () -> x.at(9, 0));
        C.index("none below 0", () -> x.at(-1, 0));
        for (int wide = 1; wide <= 4; wide++) {
            for (int high = 1; high <= 4; high++) {
                String size = wide + " by " + high;
                int w = wide;
                int h = high;
                C.due(size, 0, () -> x.square(w, h, 2));
                C.due(size + ", its last cell", -1, () -> x.at(w * h - 1, 0));
                C.index(size + ", no cell behind it", () -> x.at(w * h, 0));
                C.due(size + ", its borders", borders(w, h), () -> wires(x, w * h));
            }
        }
        C.refused("0 by 0", ARGUMENT, Scenes::rich, y -> y.square(0, 0, 2));
        C.refused("5 by 5", ARGUMENT, Scenes::rich, y -> y.square(5, 5, 2));
    }

    /** The ways that a wire goes from each cell, told from its row and column. */
    private static String borders(int wide, int high) {
        StringBuilder text = new StringBuilder();
        for (int y = 0; y < high; y++) {
            for (int x = 0; x < wide; x++) {
                text.append(y > 0 ? "n" : "").append(x < wide - 1 ? "e" : "");
                text.append(y < high - 1 ? "s" : "").append(x > 0 ? "w" : "").append(' ');
            }
        }
        return text.toString();
    }

    private static String wires(Fabricmap x, int cells) {
        StringBuilder text = new StringBuilder();
        for (int cell = 0; cell < cells; cell++) {
            for (char way : WAYS.toCharArray()) {
                int c = cell;
                text.append(Check.answerOf(() -> x.isTaken(c, way, 0)).equals("false") ? way : "");
            }
            text.append(' ');
        }
        return text.toString();
    }

    private static void registersAndWires() {
        says("Each has registers, 0 to 4, 2 at first, for all alike, and a wire to each cell beside it: 'n' up, 'e'"
                + " right, 's' down, 'w' left.");
        for (int cell = 0; cell < 9; cell++) {
            int c = cell;
            C.due("cell " + c + " has 2 registers at first", "---rr", () -> barsAlone(new Fabricmap(), c));
        }
        String[] due = {"-rrrr", "--rrr", "---rr", "----r", "-----"};
        for (int registers = 0; registers <= 4; registers++) {
            for (int cell : new int[] {0, 5}) {
                Fabricmap x = new Fabricmap();
                x.square(2, 3, registers);
                C.due("cell " + cell + " has " + registers, due[registers], () -> barsAlone(x, cell));
            }
        }
        C.refused("-1 registers", ARGUMENT, Scenes::rich, x -> x.square(3, 3, -1));
        C.refused("5 registers", ARGUMENT, Scenes::rich, x -> x.square(3, 3, 5));
        int[] steps = {-3, 1, 3, -1};
        for (int cell = 0; cell < 9; cell++) {
            for (int way = 0; way < 4; way++) {
                int c = cell;
                int next = cell + steps[way];
                if (borders(3, 3).split(" ")[cell].indexOf(WAYS.charAt(way)) >= 0) {
                    C.due("from " + cell + " to " + next, WAYS.charAt(way), () -> stepBetween(c, next));
                }
            }
        }
    }

    /** What bars a sum in the cell of its operand, its wires all being cut, by how often its number stays. */
    private static String barsAlone(Fabricmap x, int cell) {
        for (char way : WAYS.toCharArray()) {
            Check.answerOf(() -> x.cut(cell, way));
        }
        x.constant(1);
        x.two('+', 0, 0, 0, 0);
        x.place(0, cell, 0);
        return Scenes.bars(x, 1, cell, 1, 3, 5, 7, 9);
    }

    private static char stepBetween(int cell, int next) {
        Fabricmap x = new Fabricmap();
        x.constant(1);
        x.two('+', 0, 0, 0, 0);
        x.place(0, cell, 0);
        x.place(1, next, 2);
        return x.step(1, 0, 0);
    }

    private static void wounds() {
        says("Cells can be dead, wires cut.");
        Fabricmap x = Scenes.pair(3, 1, 2, 2);
        C.due("all whole", '-', () -> x.bars(1, 2, 3));
        x.kill(1);
        C.due("no way through a dead cell", 'r', () -> x.bars(1, 2, 3));
        C.due("no node there", 'd', () -> x.bars(1, 1, 3));
        x.heal(1);
        C.due("whole again", '-', () -> x.bars(1, 2, 3));
        x.cut(1, 'e');
        C.due("no way along a cut wire", 'r', () -> x.bars(1, 2, 3));
        C.due("but to the cell ahead of it", '-', () -> x.bars(1, 1, 3));
        x.mend(1, 'e');
        x.cut(2, 'w');
        C.due("the wire back is another one", '-', () -> x.bars(1, 2, 3));
        Fabricmap y = new Fabricmap();
        for (int cell = 0; cell < 9; cell++) {
            int c = cell;
            C.due("each can be dead", 0, () -> y.kill(c));
        }
        y.constant(1);
        C.due("all dead at once", 'd', () -> y.bars(0, 8, 31));
    }

    private static void edge() {
        says("Those with x 0 are at the edge.");
        for (int wide = 1; wide <= 4; wide++) {
            for (int high = 1; high <= 4; high++) {
                Fabricmap x = new Fabricmap();
                x.square(wide, high, 0);
                x.load(0, 0, 0);
                StringBuilder due = new StringBuilder();
                StringBuilder got = new StringBuilder();
                for (int cell = 0; cell < wide * high; cell++) {
                    due.append(cell % wide == 0 ? '-' : 'e');
                    got.append(x.bars(0, cell, 0));
                }
                C.due("the edge of " + wide + " by " + high, due, () -> got);
            }
        }
    }

    private static void memories() {
        says("Memories. There are the arrays 0 to 3 of 16 numbers, 0 at first, each in the bank 0 or 1, 0 at first.");
        Fabricmap x = new Fabricmap();
        for (int array = 0; array < 4; array++) {
            for (int place = 0; place < 16; place++) {
                int a = array;
                int p = place;
                C.due("number " + p + " of " + a + " at first", 0, () -> x.set(a, p, 16 * a + p + 1));
            }
        }
        int sum = 0;
        for (int spot = 0; spot < 64; spot++) {
            sum += x.get(spot / 16, spot % 16) == spot + 1 ? 1 : 0;
        }
        int apart = sum;
        C.due("each is one of its own", 64, () -> apart);
        for (int array = 0; array < 4; array++) {
            int a = array;
            C.due("bank of " + a + " at first", 0, () -> x.bank(a, 1));
        }
        C.due("bank 1", 1, () -> x.bank(3, 0));
        C.due("of that array alone", 1, () -> x.bank(2, 1));
        C.refused("no array 4", ARGUMENT, Scenes::rich, y -> y.get(4, 0));
        C.refused("no array -1", ARGUMENT, Scenes::rich, y -> y.get(-1, 0));
        C.refused("no place 16", ARGUMENT, Scenes::rich, y -> y.get(0, 16));
        C.refused("no place -1", ARGUMENT, Scenes::rich, y -> y.get(1, -1));
        C.refused("no bank 2", ARGUMENT, Scenes::rich, y -> y.bank(3, 2));
        C.refused("no bank -1", ARGUMENT, Scenes::rich, y -> y.bank(3, -1));
    }

    /** What one round of a node of two numbers gives: would be, is told, and is stored by a run. */
    private static String combined(char kind, int one, int other) {
        Fabricmap x = new Fabricmap();
        x.constant(one);
        x.constant(other);
        x.two(kind, 0, 0, 1, 0);
        x.store(3, 0, 0, 2, 0);
        x.map();
        String ahead = x.number(2, 0) + " " + x.would(1, 3, 0);
        x.run(1);
        return ahead + " " + x.get(3, 0);
    }

    private static void dueThrice(String what, int due, char kind, int one, int other) {
        C.due(what, due + " " + due + " " + due, () -> combined(kind, one, other));
    }

    private static void ints() {
        says("All numbers are ints that go round.");
        dueThrice("one above the greatest", LOW, '+', HIGH, 1);
        dueThrice("twice the least", 0, '+', LOW, LOW);
        dueThrice("one below the least", HIGH, '-', LOW, 1);
        dueThrice("0 without the least", LOW, '-', 0, LOW);
        dueThrice("the greatest times itself", 1, '*', HIGH, HIGH);
        dueThrice("the least times -1", LOW, '*', LOW, -1);
        dueThrice("the 16th power of 2 squared", 0, '*', 65536, 65536);
        dueThrice("a product above all", -2147479015, '*', 46341, 46341);
        Fabricmap x = new Fabricmap();
        x.constant(1);
        x.two('+', 0, 0, 0, 0);
        x.feed(1, 1, 1, 1);
        x.first(1, HIGH - 7);
        C.due("the greatest, round by round", HIGH, () -> x.number(1, 6));
        C.due("and the next round", LOW, () -> x.number(1, 7));
    }

    /** The six ways to add a node. */
    private static String addOne(Fabricmap x, int way) {
        return Check.answerOf(() -> {
            switch (way) {
                case 0: return x.load(0, 0, 0);
                case 1: return x.store(0, 0, 0, 0, 0);
                case 2: return x.constant(0);
                case 3: return x.round();
                case 4: return x.two('+', 0, 0, 0, 0);
                default: return x.choice(0, 0, 0);
            }
        });
    }

    private static void twelveNodes() {
        says("The loop. It has at most 12 nodes, numbered from 0, each of a kind:");
        Fabricmap x = new Fabricmap();
        for (int node = 0; node < 12; node++) {
            int n = node;
            C.due("node " + node, node, () -> addOne(x, n % 6));
        }
        for (int way = 0; way < 6; way++) {
            int w = way;
            C.due("a thirteenth, way " + way, "throws.IllegalStateException", () -> addOne(x, w));
        }
        C.due("twelve", 12, () -> x.nodes());
        C.due("the last one of them", 0, () -> x.number(11, 3));
        C.index("no thirteenth", () -> x.number(12, 0));
    }

    private static void kinds() {
        says("'l' loads from an array,");
        Fabricmap x = new Fabricmap();
        x.set(2, 4, 31);
        x.set(3, 4, 32);
        x.load(2, 0, 4);
        C.due("what is there", 31, () -> x.number(0, 0));
        says("'s' stores its operand there, by which it has that as its own number,");
        x.store(3, 0, 4, 0, 0);
        x.two('-', 1, 0, 1, 3);
        C.due("it has what it stores, not what was there", 31, () -> x.number(1, 0));
        C.due("as an operand, too", 31, () -> x.number(2, 0));
        C.due("and from rounds ahead", 0, () -> x.number(2, 3));
        C.due("it stores", "31 31", () -> {
            x.map();
            String would = x.would(1, 3, 4) + " ";
            x.run(1);
            return would + x.get(3, 4);
        });
        C.due("where it loads, nothing changes", 31, () -> x.get(2, 4));
        says("'k' is a number,");
        Fabricmap y = new Fabricmap();
        y.constant(-8);
        C.due("in each round", "-8 -8", () -> y.number(0, 0) + " " + y.number(0, 15));
        says("'i' is the round, from 0,");
        y.round();
        C.due("the first round", 0, () -> y.number(1, 0));
        C.due("the next one", 1, () -> y.number(1, 1));
        C.due("the last one", 15, () -> y.number(1, 15));
        y.map();
        y.run(3);
        C.due("from 0 behind a run, too", 0, () -> y.number(1, 0));
        Fabricmap z = new Fabricmap();
        z.round();
        z.store(0, 0, 0, 0, 0);
        z.map();
        z.run(5);
        z.run(2);
        C.due("each run begins at the round 0", 1, () -> z.get(0, 0));
    }

    private static void combining() {
        says("and with two operands '+', '-', '*',");
        dueThrice("+", 9, '+', 7, 2);
        dueThrice("-", 5, '-', 7, 2);
        dueThrice("*", 14, '*', 7, 2);
        says("'m' the less one,");
        dueThrice("m, the first one", -3, 'm', -3, -2);
        dueThrice("m, the second one", -3, 'm', -2, -3);
        dueThrice("m of alike", 4, 'm', 4, 4);
        dueThrice("m of the ends", LOW, 'm', HIGH, LOW);
        says("'<' 1 if the first one is less, else 0;");
        dueThrice("< by one", 1, '<', 4, 5);
        dueThrice("< of alike", 0, '<', 5, 5);
        dueThrice("< the other way", 0, '<', 5, 4);
        dueThrice("< of the ends", 1, '<', LOW, HIGH);
        dueThrice("< of the ends, the other way", 0, '<', HIGH, LOW);
        says("'?' has three: the second one if the first one is above 0, else the third one.");
        int[][] tests = {{1, 20}, {0, 30}, {-1, 30}, {HIGH, 20}, {LOW, 30}};
        for (int[] test : tests) {
            Fabricmap x = new Fabricmap();
            x.constant(test[0]);
            x.constant(20);
            x.constant(30);
            x.choice(0, 1, 2);
            x.store(0, 0, 0, 3, 0);
            x.map();
            x.run(1);
            C.due("test " + test[0], test[1] + " " + test[1], () -> x.number(3, 0) + " " + x.get(0, 0));
        }
    }

    private static void placeInAnArray() {
        says("The place in an array is a stride, -3 to 3, times the round, plus an offset, 0 to 15, its rest by 16 from 0"
                + " to 15.");
        for (int stride = -3; stride <= 3; stride++) {
            for (int offset : new int[] {0, 1, 14, 15}) {
                Fabricmap x = new Fabricmap();
                for (int place = 0; place < 16; place++) {
                    x.set(1, place, place);
                }
                x.load(1, stride, offset);
                int place = offset;
                StringBuilder due = new StringBuilder();
                StringBuilder got = new StringBuilder();
                for (int round = 0; round < 16; round++) {
                    due.append(place).append(' ');
                    got.append(x.number(0, round)).append(' ');
                    place += stride;
                    place += place < 0 ? 16 : place > 15 ? -16 : 0;
                }
                C.due("places by " + stride + " from " + offset, due, () -> got);
            }
        }
        Fabricmap y = new Fabricmap();
        y.round();
        y.store(2, -3, 1, 0, 0);
        y.map();
        y.run(2);
        C.due("a store below 0 goes round", 1, () -> y.get(2, 14));
        C.refused("stride 4", ARGUMENT, Scenes::rich, x -> x.load(0, 4, 0));
        C.refused("stride -4", ARGUMENT, Scenes::rich, x -> x.load(0, -4, 0));
        C.refused("offset 16", ARGUMENT, Scenes::rich, x -> x.load(0, 0, 16));
        C.refused("offset -1", ARGUMENT, Scenes::rich, x -> x.load(0, 0, -1));
    }

    /** The round so far ahead, stored round by round by a run, and told ahead of it. */
    private static String roundsAhead(int distance, int first) {
        Fabricmap x = new Fabricmap();
        x.round();
        x.store(0, 1, 0, 0, distance);
        x.first(0, first);
        x.map();
        StringBuilder told = new StringBuilder();
        for (int round = 0; round < 6; round++) {
            told.append(x.number(1, round)).append(' ');
        }
        x.run(6);
        StringBuilder stored = new StringBuilder();
        for (int round = 0; round < 6; round++) {
            stored.append(x.get(0, round)).append(' ');
        }
        return told.toString().equals(stored.toString()) ? told.toString().trim() : told + "but " + stored;
    }

    private static void operands() {
        says("An operand is a node with a distance, 0 to 3: the number that this node had so many rounds ahead,");
        C.due("distance 0", "0 1 2 3 4 5", () -> roundsAhead(0, 50));
        C.due("distance 1", "50 0 1 2 3 4", () -> roundsAhead(1, 50));
        C.due("distance 2", "50 50 0 1 2 3", () -> roundsAhead(2, 50));
        C.due("distance 3", "50 50 50 0 1 2", () -> roundsAhead(3, 50));
        C.refused("distance 4", ARGUMENT, Scenes::rich, x -> x.store(0, 0, 0, 0, 4));
        C.refused("distance -1", ARGUMENT, Scenes::rich, x -> x.store(0, 0, 0, 0, -1));
    }

    private static void firstNumbers() {
        says("or its first number, 0 if it was not told otherwise, if there was no such round.");
        Fabricmap x = new Fabricmap();
        x.constant(5);
        x.two('+', 0, 3, 0, 3);
        C.due("not told otherwise", 0, () -> x.number(1, 2));
        C.due("there was such a round", 10, () -> x.number(1, 3));
        x.first(0, LOW + 1);
        C.due("told otherwise, and gone round", 2, () -> x.number(1, 2));
        C.due("there was such a round still", 10, () -> x.number(1, 3));
        x.first(1, 7);
        C.due("that of the operand's node counts, not its own", 2, () -> x.number(1, 2));
        Fabricmap y = Scenes.summing(2);
        y.first(1, 100);
        C.due("its own, of which it is an operand", "100 101 102 104",
                () -> y.number(1, 0) + " " + y.number(1, 1) + " " + y.number(1, 2) + " " + y.number(1, 3));
        C.due("a later node's", 9, () -> {
            y.constant(3);
            y.feed(1, 0, 2, 1);
            y.first(2, 9);
            y.first(1, 0);
            return y.number(1, 0);
        });
    }

    private static void lesserNumbers() {
        says("With the distance 0 the node has a lesser number.");
        Fabricmap x = new Fabricmap();
        x.constant(1);
        C.due("a lesser number", 1, () -> x.two('+', 0, 0, 0, 0));
        C.index("its own number to be", () -> x.two('+', 2, 0, 0, 0));
        C.index("a number behind it", () -> x.two('+', 0, 0, 3, 0));
        C.refused("a store of itself to be", INDEX, Scenes::rich, y -> y.store(0, 0, 0, 6, 0));
        C.refused("a choice of itself to be", INDEX, Scenes::rich, y -> y.choice(0, 0, 6));
        C.refused("feed by the distance 0 from itself", ARGUMENT, Scenes::rich, y -> y.feed(5, 0, 5, 0));
        C.refused("feed by the distance 0 from a lesser one", ARGUMENT, Scenes::rich, y -> y.feed(5, 0, 0, 0));
        C.due("feed by the distance 1 from itself", 0, () -> x.feed(1, 0, 1, 1));
    }

    private static void byTheirNumbers() {
        says("A round does the nodes by their numbers.");
        Fabricmap x = new Fabricmap();
        x.round();
        x.load(0, 0, 0);
        x.store(0, 0, 0, 0, 0);
        x.load(0, 0, 0);
        x.set(0, 0, 60);
        C.due("a load ahead of the store", 60, () -> x.number(1, 0));
        C.due("a load behind the store", 0, () -> x.number(3, 0));
        C.due("a load ahead of the store, in the next round", 0, () -> x.number(1, 1));
        C.due("a load behind the store, in the next round", 1, () -> x.number(3, 1));
        Fabricmap y = new Fabricmap();
        y.constant(1);
        y.constant(2);
        y.store(0, 0, 0, 0, 0);
        y.store(0, 0, 0, 1, 0);
        y.interval(8);
        C.due("the store behind the other one is the last", 2, () -> y.would(1, 0, 0));
        C.due("in a run, too", 2, () -> {
            y.map();
            y.run(4);
            return y.get(0, 0);
        });
    }

    private static void manyCalls() {
        sentences.says("", "An object is used for at most 512 calls after it has been made; what later calls answer is"
                + " free.");
        Fabricmap x = Scenes.summing(1);
        for (int turn = 0; turn < 169; turn++) {
            x.map();
            x.run(1);
            x.lift(0);
        }
        C.due("the call 511", 2, () -> x.map());
        C.due("the call 512", 169L * 2L, () -> x.energy());
    }
}
