import java.io.IOException;
import java.nio.file.Files;
import java.nio.file.Path;

/** A test for each row of the promises 33 to 41: the least interval, runs, and sums over all. */
public final class RunRowsTest {
    private static final String INDEX = "IndexOutOfBoundsException";
    private static final String ARGUMENT = "IllegalArgumentException";
    private static final String UNSUPPORTED = "UnsupportedOperationException";
    private static final Check C = new Check();
    private static Sentences sentences;
    private static String heading;

    /** Takes the document's path. */
    public static void main(String[] args) throws IOException {
        sentences = new Sentences(C, Files.readString(Path.of(args[0])), "## Promise 33:", "## Not promised");
        least();
        run();
        energy();
        would();
        number();
        checksum();
        share();
        meanLength();
        isSound();
        sentences.end("## ", "`");
        C.end("RunRowsTest");
    }

    private static void promise(int number) {
        heading = "## Promise " + number + ":";
    }

    private static void says(String words) {
        sentences.says(heading, words);
    }

    private static void refused(String what, String exception, Check.CallOn call) {
        C.refused(what, exception, Scenes::rich, call);
    }

    /** All nodes of rich() placed. */
    private static Fabricmap mapped() {
        Fabricmap x = Scenes.rich();
        x.map();
        return x;
    }

    private static Fabricmap allDead() {
        Fabricmap x = Scenes.rich();
        for (int cell = 0; cell < 8; cell++) {
            x.kill(cell);
        }
        return x;
    }

    private static void least() {
        promise(33);
        says("Returns the least interval that can be told ahead.");
        C.due("of six nodes", 1, () -> Scenes.rich().least());
        C.due("it does not ask what is placed", 1, () -> mapped().least());
        C.due("it does not ask for the interval", 1, () -> {
            Fabricmap x = Scenes.rich();
            x.interval(8);
            return x.least();
        });
        says("Returns the interval, perhaps above 8.");
        Fabricmap x = Scenes.twelve();
        x.square(1, 1, 0);
        C.due("twelve", 12, () -> x.least());
        says("Throws `UnsupportedOperationException` if there are no nodes, or all cells are dead");
        C.refused("no nodes", UNSUPPORTED, Fabricmap::new, y -> y.least());
        C.refused("all cells are dead", UNSUPPORTED, RunRowsTest::allDead, y -> y.least());
        Fabricmap w = allDead();
        w.clear();
        C.unsupported("neither nodes nor whole cells", () -> w.least());
        w.round();
        w.heal(3);
        C.due("one of each", 1, () -> w.least());
        w.clear();
        C.unsupported("no nodes any more", () -> w.least());
    }

    private static void run() {
        promise(34);
        says("Runs the loop as it is placed.");
        Fabricmap x = mapped();
        x.run(3);
        C.due("what the store stores", "4 5 6", () -> x.get(0, 2) + " " + x.get(0, 3) + " " + x.get(0, 4));
        C.due("nodes stay where they are", 6, () -> x.square(3, 3, 2));
        says("- `rounds`: 1 to 16");
        C.due("1 round", 0, () -> {
            Fabricmap y = mapped();
            y.set(0, 3, 0);
            y.run(1);
            return y.get(0, 3);
        });
        C.due("16 rounds", 19, () -> {
            Fabricmap y = mapped();
            y.run(16);
            return y.get(0, 1);
        });
        for (int rounds : Scenes.outside(1, 16)) {
            C.refused("run of " + rounds, ARGUMENT, RunRowsTest::mapped, y -> y.run(rounds));
        }
        says("Returns how many beats it takes, from the beat 0 to that in which the last node is done, both counted.");
        C.due("one round", 6, () -> mapped().run(1));
        C.due("two rounds", 8, () -> mapped().run(2));
        C.due("sixteen rounds", 36, () -> mapped().run(16));
        Fabricmap w = new Fabricmap();
        w.interval(8);
        w.constant(1);
        w.place(0, 0, 0);
        C.due("the beat 0 alone", 1, () -> w.run(1));
        w.constant(1);
        w.place(1, 0, 31);
        w.lift(0);
        w.place(0, 0, 30);
        C.due("the last beat of all", 32 + 15 * 8, () -> w.run(16));
        says("Throws `IllegalArgumentException` if it is out of range");
        C.refused("no rounds and no nodes", ARGUMENT, Fabricmap::new, y -> y.run(0));
        refused("too many rounds, and not all nodes placed", ARGUMENT, y -> y.run(17));
        says("Throws `UnsupportedOperationException` if there are no nodes, or not all are placed");
        C.refused("no nodes", UNSUPPORTED, Fabricmap::new, y -> y.run(16));
        C.refused("none of twelve are placed", UNSUPPORTED, Scenes::twelve, y -> y.run(1));
        refused("four of six are placed", UNSUPPORTED, y -> y.run(1));
        Fabricmap v = Scenes.twelve();
        v.map();
        v.lift(11);
        C.unsupported("eleven of twelve are placed", () -> v.run(1));
        v.place(11, 8, 31);
        C.due("twelve of twelve are", 32, () -> v.run(1));
        v.clear();
        C.unsupported("no nodes any more", () -> v.run(1));
    }

    private static void energy() {
        promise(35);
        says("Returns the energy of all runs.");
        Fabricmap x = new Fabricmap();
        C.due("none at first", 0L, () -> x.energy());
        x.constant(1);
        x.place(0, 4, 7);
        C.due("none by placing", 0L, () -> x.energy());
        x.run(1);
        C.due("of one run", 1L, () -> x.energy());
        says("Returns the sum.");
        x.run(16);
        C.due("of two runs", 17L, () -> x.energy());
        x.would(16, 0, 0);
        x.number(0, 15);
        C.due("none by what would be", 17L, () -> x.energy());
        x.isSound();
        C.due("none by looking", 17L, () -> x.energy());
        x.clear();
        x.square(4, 4, 4);
        x.interval(8);
        C.due("it stays", 17L, () -> x.energy());
    }

    private static void would() {
        promise(36);
        says("Returns what a place of an array would have behind rounds of the loop, done one by one, from the numbers"
                + " of now.");
        Fabricmap x = Scenes.rich();
        C.due("it needs no places", 9, () -> x.would(6, 0, 7));
        C.due("it stores nothing", 0, () -> x.get(0, 7));
        C.due("where nothing is stored", -3, () -> x.would(16, 1, 15));
        C.due("a number of now", 44, () -> {
            x.set(0, 9, 44);
            return x.would(7, 0, 9);
        });
        C.due("of no nodes, the number of now", 6, () -> {
            Fabricmap y = new Fabricmap();
            y.set(3, 15, 6);
            return y.would(16, 3, 15);
        });
        says("- `rounds`: 1 to 16");
        C.due("1 round", "4 5", () -> x.would(1, 0, 2) + " " + x.would(1, 0, 3));
        C.due("15 rounds", 5, () -> x.would(15, 0, 1));
        C.due("16 rounds", 19, () -> x.would(16, 0, 1));
        for (int rounds : Scenes.outside(1, 16)) {
            refused("rounds " + rounds, ARGUMENT, y -> y.would(rounds, 0, 0));
        }
        says("- `array`: 0 to 3");
        C.due("array 3", 0, () -> x.would(1, 3, 0));
        for (int array : Scenes.outside(0, 3)) {
            refused("array " + array, ARGUMENT, y -> y.would(1, array, 0));
        }
        says("- `place`: 0 to 15");
        C.due("place 0", 18, () -> x.would(16, 0, 0));
        C.due("place 15", 17, () -> x.would(16, 0, 15));
        for (int place : Scenes.outside(0, 15)) {
            refused("place " + place, ARGUMENT, y -> y.would(1, 0, place));
        }
        says("Returns the number.");
        C.due("as often as it is asked", "9 9", () -> x.would(6, 0, 7) + " " + x.would(6, 0, 7));
        says("Throws `IllegalArgumentException` if a number is out of range");
        refused("all are wrong", ARGUMENT, y -> y.would(0, 4, 16));
        C.refused("of no nodes", ARGUMENT, Fabricmap::new, y -> y.would(17, 0, 0));
    }

    private static void number() {
        promise(37);
        says("Returns the number that a node would have in a round, done likewise.");
        Fabricmap x = Scenes.rich();
        C.due("the sum in the round 7", 11, () -> x.number(2, 7));
        C.due("the store has it, too", 11, () -> x.number(3, 7));
        C.due("it stores nothing", 0, () -> x.get(0, 9));
        C.due("the load in the round 1", 8, () -> x.number(4, 1));
        C.due("the load, from the numbers of now", 2, () -> {
            x.set(1, 13, 2);
            return x.number(4, 1);
        });
        says("- `node`: the node");
        C.due("the last one of twelve", 11, () -> Scenes.twelve().number(11, 0));
        says("- `round`: 0 to 15");
        C.due("the round 0", 0, () -> x.number(0, 0));
        C.due("the round 15", 15, () -> x.number(0, 15));
        for (int round : Scenes.outside(0, 15)) {
            refused("round " + round, ARGUMENT, y -> y.number(2, round));
        }
        says("Returns the number.");
        C.due("a load of what the loop stores in the same round", 15, () -> {
            Fabricmap y = new Fabricmap();
            y.round();
            y.store(0, 1, 0, 0, 0);
            y.load(0, 1, 0);
            return y.number(2, 15);
        });
        C.due("and of what it will store", 0, () -> {
            Fabricmap y = new Fabricmap();
            y.round();
            y.load(0, 1, 0);
            y.store(0, 1, 0, 0, 0);
            return y.number(1, 15);
        });
        says("Throws `IndexOutOfBoundsException` if there is no such node");
        for (int node : Scenes.outside(0, 5)) {
            refused("node " + node, INDEX, y -> y.number(node, 0));
        }
        refused("no such node, and no such round", INDEX, y -> y.number(6, 16));
        C.refused("no node at all", INDEX, Fabricmap::new, y -> y.number(0, -1));
        says("Throws `IllegalArgumentException` if it is out of range");
        C.refused("round 16 of a number", ARGUMENT, Scenes::twelve, y -> y.number(0, 16));
    }

    private static long power(int exponent) {
        long power = 1;
        for (int i = 0; i < exponent; i++) {
            power *= 31;
        }
        return power;
    }

    private static void checksum() {
        promise(38);
        says("Returns a sum over all.");
        Fabricmap x = new Fabricmap();
        C.due("at first", 7 * power(64), () -> x.checksum());
        says("Returns 7 at first, then for each number of each array 31 times itself plus it, then for each node that"
                + " is placed 31 times itself plus 32 times the cell and its time.");
        x.set(0, 0, 1);
        C.due("the first place", 7 * power(64) + power(63), () -> x.checksum());
        x.set(0, 1, Scenes.HIGH);
        C.due("the second place", 7 * power(64) + power(63) + Scenes.HIGH * power(62), () -> x.checksum());
        x.set(1, 0, Scenes.LOW);
        C.due("the second array", 7 * power(64) + power(63) + Scenes.HIGH * power(62) + Scenes.LOW * power(47),
                () -> x.checksum());
        x.set(3, 15, -1);
        long numbers = 7 * power(64) + power(63) + Scenes.HIGH * power(62) + Scenes.LOW * power(47) - 1;
        C.due("the last place", numbers, () -> x.checksum());
        x.square(4, 4, 2);
        for (int node = 0; node < 12; node++) {
            x.constant(node);
        }
        C.due("nodes that are not placed", numbers, () -> x.checksum());
        x.place(11, 15, 31);
        C.due("the last node", numbers * 31 + 32 * 15 + 31, () -> x.checksum());
        x.place(5, 0, 0);
        C.due("a node ahead of it, with nothing but its turn", numbers * 31 * 31 + 32 * 15 + 31, () -> x.checksum());
        x.place(2, 1, 0);
        C.due("the cell counts 32 times", (numbers * 31 + 32) * 31 * 31 + 32 * 15 + 31, () -> x.checksum());
        x.lift(2);
        x.place(2, 0, 31);
        C.due("the time counts once", (numbers * 31 + 31) * 31 * 31 + 32 * 15 + 31, () -> x.checksum());
        x.kill(0);
        C.due("those that go do not count", numbers * 31 + 32 * 15 + 31, () -> x.checksum());
        x.place(0, 2, 5);
        C.due("the first node", (numbers * 31 + 32 * 2 + 5) * 31 + 32 * 15 + 31, () -> x.checksum());
        C.due("none placed, and the numbers at first", 7 * power(64), () -> Scenes.twelve().checksum());
    }

    private static void share() {
        promise(39);
        says("Returns the share of cells and rests that do a node.");
        C.due("none", 0f, () -> new Fabricmap().share());
        C.due("none of twelve", 0f, () -> Scenes.twelve().share());
        says("Returns their number divided by that of all cells, dead ones too, times the interval, both converted to"
                + " float.");
        C.due("four of eighteen, one cell being dead", 4f / 18f, () -> Scenes.rich().share());
        C.due("six of eighteen", 6f / 18f, () -> mapped().share());
        Fabricmap x = Scenes.twelve();
        x.square(4, 3, 0);
        x.interval(1);
        x.map();
        C.due("all", 1f, () -> x.share());
        x.square(4, 4, 0);
        x.interval(8);
        x.place(3, 3, 3);
        C.due("one of 128", 1f / 128f, () -> x.share());
        for (int cell = 0; cell < 16; cell++) {
            if (cell != 3) {
                x.kill(cell);
            }
        }
        C.due("one of 128, fifteen cells being dead", 1f / 128f, () -> x.share());
        x.kill(3);
        C.due("none, all being dead", 0f, () -> x.share());
        Fabricmap y = Scenes.twelve();
        y.square(1, 1, 0);
        y.interval(1);
        C.due("none of one", 0f, () -> y.share());
        y.place(7, 0, 31);
        C.due("one of one", 1f, () -> y.share());
    }

    private static void meanLength() {
        promise(40);
        says("Returns the mean length of routes.");
        C.due("two of two beats and one of one", 5.0 / 3.0, () -> Scenes.rich().meanLength());
        says("Returns the sum divided by their number, both converted to double.");
        C.due("all alike", 8.0, () -> {
            Fabricmap x = Scenes.pair(2, 1, 2, 8);
            x.place(1, 1, 9);
            return x.meanLength();
        });
        C.due("none but those of no beats", 0.0, () -> {
            Fabricmap x = Scenes.pair(1, 1, 0, 2);
            x.place(1, 0, 1);
            return x.meanLength();
        });
        says("Throws `ArithmeticException` if there are none");
        C.refused("no nodes", "ArithmeticException", Fabricmap::new, y -> y.meanLength());
        C.refused("no operands", "ArithmeticException", Scenes::twelve, y -> y.meanLength());
        C.refused("no user placed", "ArithmeticException", () -> Scenes.pair(2, 2, 2, 2), y -> y.meanLength());
        Fabricmap x = Scenes.rich();
        x.lift(2);
        C.due("the last ones gone", "throws.ArithmeticException", () -> x.meanLength());
    }

    private static void isSound() {
        promise(41);
        says("Checks the mapping: each route leads from its operand to its node in its beats through whole cells and"
                + " wires; no register and no wire is taken too often; and a run of all 16 rounds, if all nodes are"
                + " placed, would store what the loop does.");
        Fabricmap x = mapped();
        C.due("it changes nothing", Look.at(mapped()), () -> {
            x.isSound();
            return Look.at(x);
        });
        says("Returns whether all of this holds.");
        C.due("no nodes", true, () -> new Fabricmap().isSound());
        C.due("none placed", true, () -> Scenes.twelve().isSound());
        C.due("some placed", true, () -> Scenes.rich().isSound());
        C.due("all placed", true, () -> mapped().isSound());
        C.due("all dead", true, () -> allDead().isSound());
        Fabricmap y = mapped();
        y.kill(4);
        y.cut(0, 's');
        C.due("behind a dead cell and a cut wire", true, () -> y.isSound());
        y.map();
        C.due("mapped anew", true, () -> y.isSound());
        y.heal(4);
        y.heal(8);
        y.map();
        C.due("healed", true, () -> y.isSound());
        Fabricmap z = new Fabricmap();
        z.load(0, 1, 0);
        z.two('+', 0, 0, 0, 1);
        z.store(0, 1, 1, 1, 0);
        z.set(0, 0, 1);
        z.interval(5);
        C.due("each load behind the store of the round ahead", 3, () -> z.map());
        C.due("so stored", true, () -> z.isSound());
        C.due("as it would be", z.would(16, 0, 0), () -> {
            z.run(16);
            return z.get(0, 0);
        });
    }
}
