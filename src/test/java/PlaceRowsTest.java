import java.io.IOException;
import java.nio.file.Files;
import java.nio.file.Path;
import java.util.function.Supplier;

/** A test for each row of the promises 21 to 32: placing, mapping, and what is seen of it. */
public final class PlaceRowsTest {
    private static final String INDEX = "IndexOutOfBoundsException";
    private static final String ARGUMENT = "IllegalArgumentException";
    private static final String UNSUPPORTED = "UnsupportedOperationException";
    private static final String MISSING = "NoSuchElementException";
    private static final Check C = new Check();
    private static Sentences sentences;
    private static String heading;

    /** Takes the document's path. */
    public static void main(String[] args) throws IOException {
        sentences = new Sentences(C, Files.readString(Path.of(args[0])), "## Promise 21:", "## Promise 33:");
        bars();
        place();
        lift();
        map();
        cellOf();
        timeOf();
        at();
        routes();
        length();
        step();
        held();
        isTaken();
        sentences.end("## ", "`");
        C.end("PlaceRowsTest");
    }

    private static void promise(int number) {
        heading = "## Promise " + number + ":";
    }

    private static void says(String words) {
        sentences.says(heading, words);
    }

    private static void refused(String what, String exception, Check.CallOn call) {
        C.refused(what, exception, Scenes::rich, call);
    }

    /** A square of 16 cells and 12 nodes. */
    private static Fabricmap large() {
        Fabricmap x = Scenes.twelve();
        x.square(4, 4, 1);
        return x;
    }

    private static void bars() {
        promise(21);
        says("Returns what bars a node.");
        Fabricmap x = Scenes.rich();
        C.due("it places nothing", "--", () -> "" + x.bars(4, 0, 0) + x.bars(4, 0, 0));
        C.missing("the node is not placed", () -> x.cellOf(4));
        C.due("it takes no routes away", 3, () -> x.routes());
        C.due("nor leaves any", 3, () -> {
            x.bars(5, 1, 3);
            return x.routes();
        });
        C.due("nor their registers and wires", "1 0 false", () -> x.held(1, 1) + " " + x.held(1, 0) + " "
                + x.isTaken(1, 's', 1));
        C.due("all is as it was", Look.at(Scenes.rich()), () -> Look.at(x));
        says("- `node`: the node");
        C.due("the last one of twelve", '-', () -> large().bars(11, 0, 0));
        C.due("the first one of twelve", '-', () -> large().bars(0, 0, 0));
        says("- `cell`: the cell");
        C.due("the last cell of sixteen", '-', () -> large().bars(0, 15, 0));
        says("- `time`: 0 to 31");
        C.due("the last time", '-', () -> large().bars(0, 0, 31));
        for (int time : Scenes.outside(0, 31)) {
            refused("time " + time, ARGUMENT, y -> y.bars(4, 0, time));
        }
        says("Returns the letter, '-' for nothing.");
        Fabricmap w = Scenes.rich();
        C.due("nothing", '-', () -> w.bars(4, 0, 0));
        C.due("it is placed", 'p', () -> w.bars(3, 3, 5));
        C.due("the cell is dead", 'd', () -> w.bars(5, 8, 4));
        C.due("it is no edge", 'e', () -> w.bars(4, 2, 0));
        C.due("the cell does another one", 'c', () -> w.bars(5, 1, 4));
        C.due("some route has too few beats", 'o', () -> w.bars(5, 2, 1));
        C.due("some route has too many beats", 'o', () -> w.bars(5, 2, 11));
        C.due("some route is not free", 'r', () -> w.bars(5, 2, 2));
        says("Throws `IndexOutOfBoundsException` if there is no such node or cell");
        for (int node : Scenes.outside(0, 5)) {
            refused("node " + node, INDEX, y -> y.bars(node, 0, 0));
        }
        for (int cell : Scenes.outside(0, 8)) {
            refused("cell " + cell, INDEX, y -> y.bars(4, cell, 0));
        }
        C.refused("no node at all", INDEX, Fabricmap::new, y -> y.bars(0, 0, 0));
        refused("no such node, and no such time", INDEX, y -> y.bars(6, 0, 32));
        refused("no such cell, and no such time", INDEX, y -> y.bars(4, 9, -1));
        refused("no such cell for a placed one", INDEX, y -> y.bars(3, 9, 0));
        says("Throws `IllegalArgumentException` if the time is out of range");
        refused("no such time for a placed one at a dead cell", ARGUMENT, y -> y.bars(3, 8, 32));
    }

    private static void place() {
        promise(22);
        says("Places a node.");
        Fabricmap x = Scenes.rich();
        x.place(4, 6, 9);
        C.due("its cell", 6, () -> x.cellOf(4));
        C.due("its time", 9, () -> x.timeOf(4));
        C.due("others stay", "1 4 0 3",
                () -> x.cellOf(0) + " " + x.cellOf(1) + " " + x.cellOf(2) + " " + x.cellOf(3));
        C.missing("those not placed are not", () -> x.cellOf(5));
        says("- `node`: the node");
        C.due("the last one of twelve", 0, () -> large().place(11, 0, 0));
        says("- `cell`: the cell");
        C.due("the last one of sixteen", 0, () -> large().place(0, 15, 0));
        says("- `time`: 0 to 31");
        C.due("the last time", 31, () -> {
            Fabricmap y = large();
            y.place(0, 0, 31);
            return y.timeOf(0);
        });
        for (int time : Scenes.outside(0, 31)) {
            refused("time " + time, ARGUMENT, y -> y.place(4, 0, time));
        }
        says("Returns how many routes are laid by that.");
        C.due("none of no operands and no users", 0, () -> Scenes.rich().place(4, 0, 0));
        C.due("one to itself and one from another node", 2, () -> Scenes.rich().place(5, 1, 3));
        C.due("to a user that has it twice", 2, () -> {
            Fabricmap y = Scenes.pair(1, 1, 2, 2);
            y.lift(0);
            y.place(1, 0, 1);
            return y.place(0, 0, 0);
        });
        C.due("from operands and to users that are placed alone", 1, () -> {
            Fabricmap y = Scenes.rich();
            y.lift(2);
            y.lift(1);
            return y.place(2, 0, 3) - 1;
        });
        says("Throws `IndexOutOfBoundsException` if there is no such node or cell");
        for (int node : Scenes.outside(0, 5)) {
            refused("node " + node, INDEX, y -> y.place(node, 0, 0));
        }
        for (int cell : Scenes.outside(0, 8)) {
            refused("cell " + cell, INDEX, y -> y.place(4, cell, 0));
        }
        C.refused("no node at all", INDEX, Fabricmap::new, y -> y.place(0, 0, 0));
        refused("no such node, and no such time", INDEX, y -> y.place(6, 0, 32));
        refused("no such cell, and no such time", INDEX, y -> y.place(4, 9, 32));
        refused("no such cell for a placed one", INDEX, y -> y.place(3, 9, 0));
        says("Throws `IllegalArgumentException` if the time is out of range");
        refused("no such time for a placed one", ARGUMENT, y -> y.place(3, 6, 32));
        refused("no such time at a dead cell", ARGUMENT, y -> y.place(4, 8, -1));
        says("Throws `UnsupportedOperationException` if something bars it");
        refused("it is placed", UNSUPPORTED, y -> y.place(3, 6, 9));
        refused("where it is placed", UNSUPPORTED, y -> y.place(3, 3, 5));
        refused("the cell is dead", UNSUPPORTED, y -> y.place(5, 8, 4));
        refused("it is no edge", UNSUPPORTED, y -> y.place(4, 1, 1));
        refused("the cell does another one", UNSUPPORTED, y -> y.place(5, 1, 4));
        Supplier<Fabricmap> stores = PlaceRowsTest::loadAndStore;
        C.refused("the bank is used", UNSUPPORTED, stores, y -> y.place(2, 3, 6));
        C.refused("the order of loads and stores", UNSUPPORTED, stores, y -> y.place(2, 3, 3));
        refused("some route has too few beats", UNSUPPORTED, y -> y.place(5, 2, 1));
        refused("some route has too many beats", UNSUPPORTED, y -> y.place(5, 2, 11));
        refused("some route is not free", UNSUPPORTED, y -> y.place(5, 2, 2));
    }

    /** A number (0), a load (1) at the beat 4 of each second one, a store (2) to the same place. */
    private static Fabricmap loadAndStore() {
        Fabricmap x = new Fabricmap();
        x.constant(1);
        x.load(0, 1, 1);
        x.store(0, 1, 1, 0, 0);
        x.place(1, 0, 4);
        return x;
    }

    private static void lift() {
        promise(23);
        says("Takes a node away from its place.");
        Fabricmap x = Scenes.rich();
        x.lift(2);
        C.missing("it is not placed", () -> x.cellOf(2));
        C.due("its place is free", -1, () -> x.at(0, 1));
        C.due("others stay", "1 4 3", () -> x.cellOf(0) + " " + x.cellOf(1) + " " + x.cellOf(3));
        C.due("its routes' registers are free", 0, () -> x.held(1, 1));
        C.due("its routes' wires are free", "false false false", () -> x.isTaken(1, 'w', 0) + " "
                + x.isTaken(4, 'w', 1) + " " + x.isTaken(0, 's', 0));
        says("- `node`: the node");
        C.due("the last one of twelve", 0, () -> {
            Fabricmap y = large();
            y.place(11, 15, 31);
            return y.lift(11);
        });
        says("Returns how many routes go.");
        C.due("none", 0, () -> {
            Fabricmap y = Scenes.rich();
            y.place(4, 0, 0);
            return y.lift(4);
        });
        C.due("from it", 1, () -> Scenes.rich().lift(0));
        C.due("to it", 1, () -> Scenes.rich().lift(3));
        C.due("to it and from it", 3, () -> Scenes.rich().lift(2));
        C.due("to itself, once", 1, () -> {
            Fabricmap y = Scenes.summing(1);
            y.place(1, 0, 0);
            return y.lift(1);
        });
        says("Throws `IndexOutOfBoundsException` if there is no such node");
        for (int node : Scenes.outside(0, 5)) {
            refused("node " + node, INDEX, y -> y.lift(node));
        }
        C.refused("no node at all", INDEX, Fabricmap::new, y -> y.lift(0));
        says("Throws `UnsupportedOperationException` if it is not placed");
        refused("one that is not placed", UNSUPPORTED, y -> y.lift(4));
        C.unsupported("the second time", () -> x.lift(2));
    }

    private static void map() {
        promise(24);
        says("Maps.");
        Fabricmap x = Scenes.rich();
        x.map();
        C.due("the load's cell", 0, () -> x.cellOf(4));
        C.due("the load's time", 0, () -> x.timeOf(4));
        C.due("the product's cell", 1, () -> x.cellOf(5));
        C.due("the product's time", 3, () -> x.timeOf(5));
        C.due("its way to itself", "...sn", () -> Scenes.route(x, 5, 0));
        C.due("those placed stay", "0 0 3 5",
                () -> x.timeOf(0) + " " + x.timeOf(1) + " " + x.timeOf(2) + " " + x.timeOf(3));
        says("Returns how many nodes are placed then, of all.");
        C.due("none of none", 0, () -> new Fabricmap().map());
        C.due("six, four of them placed before", 6, () -> Scenes.rich().map());
        C.due("the second time", 6, () -> x.map());
        C.due("twelve", 12, () -> large().map());
        C.due("none at dead cells", 0, () -> {
            Fabricmap y = Scenes.twelve();
            y.square(1, 1, 1);
            y.kill(0);
            return y.map();
        });
        C.due("those placed before, with none more", 1, () -> {
            Fabricmap y = Scenes.twelve();
            y.square(1, 1, 1);
            y.interval(1);
            y.place(7, 0, 3);
            return y.map();
        });
    }

    private static void cellOf() {
        promise(25);
        says("Returns the cell of a node.");
        C.due("the number's", 4, () -> Scenes.rich().cellOf(1));
        says("- `node`: the node");
        Fabricmap x = large();
        x.place(0, 0, 0);
        x.place(11, 15, 0);
        C.due("the first one's", 0, () -> x.cellOf(0));
        C.due("the last one's", 15, () -> x.cellOf(11));
        says("Returns the cell.");
        C.due("as often as it is asked", 30, () -> x.cellOf(11) + x.cellOf(11));
        says("Throws `IndexOutOfBoundsException` if there is no such node");
        for (int node : Scenes.outside(0, 5)) {
            refused("node " + node, INDEX, y -> y.cellOf(node));
        }
        C.refused("no node at all", INDEX, Fabricmap::new, y -> y.cellOf(0));
        C.index("one that is no more", () -> {
            x.clear();
            return x.cellOf(11);
        });
        says("Throws `NoSuchElementException` if it is not placed");
        refused("one that is not placed", MISSING, y -> y.cellOf(4));
        C.missing("one that is no more", () -> {
            Fabricmap y = Scenes.rich();
            y.kill(1);
            return y.cellOf(0);
        });
    }

    private static void timeOf() {
        promise(26);
        says("Returns the time of a node.");
        C.due("the sum's", 3, () -> Scenes.rich().timeOf(2));
        says("- `node`: the node");
        Fabricmap x = large();
        x.place(0, 0, 0);
        x.place(11, 15, 31);
        C.due("the first one's", 0, () -> x.timeOf(0));
        C.due("the last one's", 31, () -> x.timeOf(11));
        says("Returns the time.");
        C.due("not its rest", 62, () -> x.timeOf(11) + x.timeOf(11));
        says("Throws `IndexOutOfBoundsException` if there is no such node");
        for (int node : Scenes.outside(0, 5)) {
            refused("node " + node, INDEX, y -> y.timeOf(node));
        }
        C.refused("no node at all", INDEX, Fabricmap::new, y -> y.timeOf(0));
        says("Throws `NoSuchElementException` if it is not placed");
        refused("one that is not placed", MISSING, y -> y.timeOf(5));
        C.missing("one that is no more", () -> {
            Fabricmap y = Scenes.rich();
            y.interval(2);
            return y.timeOf(3);
        });
    }

    private static void at() {
        promise(27);
        says("Returns which node a cell does by a rest.");
        Fabricmap x = Scenes.rich();
        C.due("the sum at the first cell", 2, () -> x.at(0, 1));
        C.due("the store", 3, () -> x.at(3, 1));
        says("- `cell`: the cell");
        Fabricmap w = large();
        w.place(11, 15, 31);
        w.place(10, 0, 0);
        C.due("the last cell", 11, () -> w.at(15, 1));
        C.due("the first cell", 10, () -> w.at(0, 0));
        says("- `rest`: from 0");
        for (int rest : new int[] {-1, Scenes.LOW}) {
            refused("rest " + rest, ARGUMENT, y -> y.at(0, rest));
        }
        says("Returns the node, -1 for none.");
        C.due("none by the other rest", -1, () -> w.at(15, 0));
        C.due("none at the cell beside it", -1, () -> w.at(14, 1));
        C.due("none at a dead cell", -1, () -> x.at(8, 0));
        says("Throws `IndexOutOfBoundsException` if there is no such cell");
        for (int cell : Scenes.outside(0, 8)) {
            refused("cell " + cell, INDEX, y -> y.at(cell, 0));
        }
        refused("no such cell, and no such rest", INDEX, y -> y.at(9, 2));
        says("Throws `IllegalArgumentException` if it is not below the interval");
        C.due("the last rest", -1, () -> x.at(2, 1));
        for (int rest : new int[] {2, 3, 8, Scenes.HIGH}) {
            refused("rest " + rest, ARGUMENT, y -> y.at(0, rest));
        }
    }

    private static void routes() {
        promise(28);
        says("Returns how many routes there are.");
        C.due("none at first", 0, () -> new Fabricmap().routes());
        C.due("three", 3, () -> Scenes.rich().routes());
        says("\nReturns how many.");
        C.due("none of twelve nodes without operands", 0, () -> {
            Fabricmap x = large();
            x.map();
            return x.routes();
        });
        C.due("those of no beats, too", 2, () -> {
            Fabricmap x = Scenes.pair(1, 1, 0, 2);
            x.place(1, 0, 1);
            return x.routes();
        });
        C.due("none of a user alone", 0, () -> {
            Fabricmap x = Scenes.pair(1, 1, 0, 2);
            x.place(1, 0, 1);
            x.lift(0);
            return x.routes();
        });
        C.due("thirty, of ten choices", 30, () -> {
            Fabricmap x = new Fabricmap();
            x.square(4, 4, 4);
            x.interval(8);
            x.constant(1);
            x.constant(2);
            for (int node = 2; node < 12; node++) {
                x.choice(0, 1, 0);
            }
            return x.map() == 12 ? x.routes() : -1;
        });
    }

    private static void length() {
        promise(29);
        says("Returns how many beats the route to an operand has.");
        Fabricmap x = Scenes.rich();
        C.due("of the store", 1, () -> x.length(3, 0));
        says("- `node`: the node");
        C.due("of the sum", 2, () -> x.length(2, 0));
        says("- `operand`: 0 to 2");
        Fabricmap w = new Fabricmap();
        w.interval(8);
        w.constant(1);
        w.constant(2);
        w.constant(3);
        w.choice(0, 1, 2);
        w.place(0, 4, 0);
        w.place(1, 4, 1);
        w.place(2, 4, 2);
        w.place(3, 4, 6);
        C.due("of all three", "5 4 3", () -> w.length(3, 0) + " " + w.length(3, 1) + " " + w.length(3, 2));
        C.index("of no fourth one", () -> w.length(3, 3));
        says("Returns how many.");
        C.due("none at least", 0, () -> {
            w.lift(3);
            w.place(3, 4, 3);
            return w.length(3, 2);
        });
        C.due("eight at most", 8, () -> {
            Fabricmap y = Scenes.pair(2, 1, 2, 8);
            y.place(1, 1, 9);
            return y.length(1, 1);
        });
        says("Throws `IndexOutOfBoundsException` if there is no such node or operand");
        for (int node : Scenes.outside(0, 5)) {
            refused("node " + node, INDEX, y -> y.length(node, 0));
        }
        for (int operand : Scenes.outside(0, 1)) {
            refused("operand " + operand + " of a sum", INDEX, y -> y.length(2, operand));
        }
        refused("operand 0 of a round", INDEX, y -> y.length(0, 0));
        refused("operand 1 of a store", INDEX, y -> y.length(3, 1));
        refused("operand 0 of a load that is not placed", INDEX, y -> y.length(4, 0));
        refused("operand 2 of a product that is not placed", INDEX, y -> y.length(5, 2));
        C.refused("no node at all", INDEX, Fabricmap::new, y -> y.length(0, 0));
        says("Throws `NoSuchElementException` if there is no route");
        refused("of one that is not placed, to one that is", MISSING, y -> y.length(5, 1));
        refused("of one that is not placed, to itself", MISSING, y -> y.length(5, 0));
        C.missing("of one that is placed, to one that is not", () -> {
            Fabricmap y = Scenes.rich();
            y.lift(0);
            return y.length(2, 0);
        });
    }

    private static void step() {
        promise(30);
        says("Returns a beat of the route to an operand.");
        Fabricmap x = Scenes.rich();
        C.due("the store's way", 's', () -> x.step(3, 0, 0));
        says("- `node`: the node");
        C.due("the sum's way", '.', () -> x.step(2, 0, 0));
        says("- `operand`: 0 to 2");
        C.due("to the second operand", 'w', () -> x.step(2, 1, 0));
        Fabricmap w = new Fabricmap();
        w.constant(1);
        w.choice(0, 0, 0);
        w.place(0, 4, 0);
        w.place(1, 4, 3);
        C.due("to the third operand", '.', () -> w.step(1, 2, 1));
        C.index("to no fourth one", () -> w.step(1, 3, 1));
        says("- `beat`: from 0");
        C.due("the beat 0", 'w', () -> x.step(2, 1, 0));
        C.due("the beat 1", 'n', () -> x.step(2, 1, 1));
        for (int beat : new int[] {-1, Scenes.LOW}) {
            refused("beat " + beat, MISSING, y -> y.step(2, 1, beat));
        }
        says("Returns '.', 'n', 'e', 's' or 'w'.");
        Fabricmap z = new Fabricmap();
        z.interval(8);
        z.constant(1);
        z.two('+', 0, 0, 0, 0);
        z.place(0, 4, 0);
        int[] cells = {4, 1, 5, 7, 3};
        for (int way = 0; way < 5; way++) {
            int cell = cells[way];
            C.due("to cell " + cell, ".nesw".charAt(way), () -> {
                z.place(1, cell, 2);
                char letter = z.step(1, 0, 0);
                z.lift(1);
                return letter;
            });
        }
        says("Throws `IndexOutOfBoundsException` if there is no such node or operand");
        for (int node : Scenes.outside(0, 5)) {
            refused("node " + node, INDEX, y -> y.step(node, 0, 0));
        }
        for (int operand : Scenes.outside(0, 1)) {
            refused("operand " + operand, INDEX, y -> y.step(2, operand, 0));
        }
        refused("operand 0 of a round", INDEX, y -> y.step(0, 0, 0));
        refused("no such node, and no such beat", INDEX, y -> y.step(6, 0, 9));
        refused("no such operand, and no such beat", INDEX, y -> y.step(2, 2, -1));
        refused("no such operand of one that is not placed", INDEX, y -> y.step(4, 0, 0));
        C.refused("no node at all", INDEX, Fabricmap::new, y -> y.step(0, 0, 0));
        says("Throws `NoSuchElementException` if there is no such route or beat");
        refused("the beat behind the last one", MISSING, y -> y.step(2, 1, 2));
        refused("beat of all", MISSING, y -> y.step(2, 1, Scenes.HIGH));
        refused("of one that is not placed", MISSING, y -> y.step(5, 1, 0));
        C.missing("of a route of no beats", () -> {
            Fabricmap y = Scenes.pair(1, 1, 0, 2);
            y.place(1, 0, 1);
            return y.step(1, 0, 0);
        });
        Fabricmap v = Scenes.pair(2, 1, 2, 8);
        v.place(1, 1, 9);
        C.due("the eighth beat", 'e', () -> v.step(1, 0, 7));
        C.missing("no ninth beat", () -> v.step(1, 0, 8));
    }

    private static void held() {
        promise(31);
        says("Returns how many registers of a cell are taken by a rest.");
        C.due("one", 1, () -> Scenes.rich().held(1, 1));
        C.due("none by the other rest", 0, () -> Scenes.rich().held(1, 0));
        says("- `cell`: the cell");
        Fabricmap x = large();
        x.clear();
        x.constant(1);
        x.store(0, 0, 0, 0, 0);
        x.two('+', 0, 0, 0, 0);
        x.place(0, 15, 0);
        x.place(2, 15, 3);
        C.due("the last cell", 1, () -> x.held(15, 1));
        C.due("the first cell", 0, () -> x.held(0, 1));
        says("- `rest`: from 0");
        C.due("the rest 0", 1, () -> x.held(15, 0));
        for (int rest : new int[] {-1, Scenes.LOW}) {
            refused("rest " + rest, ARGUMENT, y -> y.held(1, rest));
        }
        says("Returns how many.");
        for (int registers = 0; registers <= 4; registers++) {
            Fabricmap y = Scenes.pair(1, 1, registers, 2);
            int r = registers;
            C.due("all of " + r, r + " " + r, () -> {
                y.place(1, 0, 2 * r + 1);
                return y.held(0, 0) + " " + y.held(0, 1);
            });
        }
        says("Throws `IndexOutOfBoundsException` if there is no such cell");
        for (int cell : Scenes.outside(0, 8)) {
            refused("cell " + cell, INDEX, y -> y.held(cell, 0));
        }
        refused("no such cell, and no such rest", INDEX, y -> y.held(9, 2));
        says("Throws `IllegalArgumentException` if it is not below the interval");
        for (int rest : new int[] {2, 3, 8, Scenes.HIGH}) {
            refused("rest " + rest, ARGUMENT, y -> y.held(1, rest));
        }
    }

    private static void isTaken() {
        promise(32);
        says("Returns whether a wire is taken by a rest.");
        C.due("the wire", true, () -> Scenes.rich().isTaken(1, 'w', 0));
        C.due("by the other rest", false, () -> Scenes.rich().isTaken(1, 'w', 1));
        says("- `cell`: the cell from which it goes");
        C.due("not the one back", false, () -> Scenes.rich().isTaken(0, 'e', 0));
        Fabricmap x = large();
        C.due("from the last cell", false, () -> x.isTaken(15, 'n', 0));
        C.due("from the first cell", false, () -> x.isTaken(0, 's', 0));
        says("- `way`: 'n', 'e', 's' or 'w'");
        int[] cells = {1, 5, 7, 3};
        for (int way = 0; way < 4; way++) {
            Fabricmap y = new Fabricmap();
            y.constant(1);
            y.two('+', 0, 0, 0, 0);
            y.place(0, 4, 0);
            y.place(1, cells[way], 2);
            StringBuilder taken = new StringBuilder();
            for (char letter : "nesw".toCharArray()) {
                taken.append(y.isTaken(4, letter, 1) ? letter : '-');
            }
            String due = "----".substring(0, way) + "nesw".charAt(way) + "---".substring(way);
            C.due("the way to " + cells[way], due, () -> taken);
        }
        says("- `rest`: from 0");
        for (int rest : new int[] {-1, Scenes.LOW}) {
            refused("rest " + rest, ARGUMENT, y -> y.isTaken(1, 'w', rest));
        }
        says("Returns whether it is.");
        C.due("the store's way", true, () -> Scenes.rich().isTaken(0, 's', 0));
        C.due("a cut wire", false, () -> Scenes.rich().isTaken(2, 'w', 0));
        C.due("a wire of a dead cell", false, () -> Scenes.rich().isTaken(8, 'w', 1));
        says("Throws `IndexOutOfBoundsException` if there is no such cell");
        for (int cell : Scenes.outside(0, 8)) {
            refused("cell " + cell, INDEX, y -> y.isTaken(cell, 'n', 0));
        }
        refused("no such cell, and no such way", INDEX, y -> y.isTaken(9, 'q', 0));
        refused("no such cell, and no such rest", INDEX, y -> y.isTaken(-1, 'n', 2));
        says("Throws `IllegalArgumentException` if there is no such way, no wire there, or the rest is not below the"
                + " interval");
        for (char way : new char[] {'.', '-', 'E', 'm', 'o', 'd', 'f', 0, 255, 'e' + 256, 0xFFFF}) {
            refused("way " + (int) way, ARGUMENT, y -> y.isTaken(4, way, 0));
        }
        refused("no wire up", ARGUMENT, y -> y.isTaken(2, 'n', 0));
        refused("no wire right", ARGUMENT, y -> y.isTaken(2, 'e', 0));
        refused("no wire down", ARGUMENT, y -> y.isTaken(6, 's', 0));
        refused("no wire left", ARGUMENT, y -> y.isTaken(6, 'w', 0));
        for (int rest : new int[] {2, 3, 8, Scenes.HIGH}) {
            refused("rest " + rest, ARGUMENT, y -> y.isTaken(1, 'w', rest));
        }
        C.due("the last rest of eight", false, () -> {
            x.interval(8);
            return x.isTaken(5, 'w', 7);
        });
    }
}
