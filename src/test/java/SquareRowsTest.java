import java.io.IOException;
import java.nio.file.Files;
import java.nio.file.Path;

/** A test for each row of the promises 1 to 10: the square, its wounds, the memories. */
public final class SquareRowsTest {
    private static final String INDEX = "IndexOutOfBoundsException";
    private static final String ARGUMENT = "IllegalArgumentException";
    private static final String UNSUPPORTED = "UnsupportedOperationException";
    private static final int LOW = Scenes.LOW;
    private static final int HIGH = Scenes.HIGH;
    private static final Check C = new Check();
    private static Sentences sentences;
    private static String heading;

    /** Takes the document's path. */
    public static void main(String[] args) throws IOException {
        sentences = new Sentences(C, Files.readString(Path.of(args[0])), "## Promise 1:", "## Promise 11:");
        newObject();
        square();
        interval();
        kill();
        heal();
        cut();
        mend();
        bank();
        set();
        get();
        sentences.end("## ", "`");
        C.end("SquareRowsTest");
    }

    private static void promise(int number) {
        heading = "## Promise " + number + ":";
    }

    private static void says(String words) {
        sentences.says(heading, words);
    }

    private static void refused(String what, String exception, Check.CallOn call) {
        C.refused(what, exception, Scenes::rich, call);
    }

    private static void newObject() {
        promise(1);
        says("Creates a square of 3 by 3 cells without nodes.");
        Fabricmap x = new Fabricmap();
        C.due("the first cell", -1, () -> x.at(0, 0));
        C.due("the ninth cell", -1, () -> x.at(8, 0));
        C.index("no tenth cell", () -> x.at(9, 0));
        C.due("a wire down from the third cell", false, () -> x.isTaken(2, 's', 0));
        C.argument("no wire right from it", () -> x.isTaken(2, 'e', 0));
        C.due("a wire right from the seventh cell", false, () -> x.isTaken(6, 'e', 0));
        C.argument("no wire down from it", () -> x.isTaken(6, 's', 0));
        C.due("no nodes", 0, () -> x.nodes());
        C.index("no node 0", () -> x.timeOf(0));
        C.due("another object is one of its own", 1, () -> {
            new Fabricmap().constant(1);
            return x.constant(1) + 1;
        });
    }

    private static void square() {
        promise(2);
        says("Makes a square anew, all of whose cells and wires are whole; nodes stay, but none is placed.");
        Fabricmap x = Scenes.rich();
        C.due("the same square anew", 4, () -> x.square(3, 3, 2));
        for (int cell = 0; cell < 9; cell++) {
            int c = cell;
            C.due("cell " + cell + " is whole", false, () -> x.heal(c));
        }
        C.due("a wire that was cut is whole", false, () -> x.mend(2, 'w'));
        C.due("another one that was", false, () -> x.mend(5, 's'));
        C.due("nodes stay", 6, () -> x.nodes());
        for (int node = 0; node < 6; node++) {
            int n = node;
            C.missing("node " + node + " is not placed", () -> x.cellOf(n));
        }
        C.due("no routes", 0, () -> x.routes());
        C.due("no register is taken", 0, () -> x.held(1, 1));
        C.due("no wire is taken", false, () -> x.isTaken(1, 'w', 0));
        C.due("operands stay", 5, () -> x.feed(5, 0, 5, 3));
        C.due("first numbers stay", 9, () -> x.first(2, 9));
        says("- `wide`: 1 to 4");
        for (int wide = 1; wide <= 4; wide++) {
            int w = wide;
            C.due("square " + wide + " wide", 0, () -> x.square(w, 2, 0));
            C.due("its last cell", -1, () -> x.at(2 * w - 1, 0));
            C.index("no cell behind it", () -> x.at(2 * w, 0));
            C.argument("no wire right at the end of a row", () -> x.isTaken(w - 1, 'e', 0));
            C.argument("no wire left at the begin of a row", () -> x.isTaken(w, 'w', 0));
        }
        for (int wide : Scenes.outside(1, 4)) {
            refused("square " + wide + " wide", ARGUMENT, y -> y.square(wide, 3, 2));
        }
        says("- `high`: 1 to 4");
        for (int high = 1; high <= 4; high++) {
            int h = high;
            C.due("square " + high + " high", 0, () -> x.square(3, h, 0));
            C.due("its last cell", -1, () -> x.at(3 * h - 1, 0));
            C.index("no cell behind it", () -> x.at(3 * h, 0));
            C.argument("no wire down from the last row", () -> x.isTaken(3 * h - 1, 's', 0));
        }
        for (int high : Scenes.outside(1, 4)) {
            refused("square " + high + " high", ARGUMENT, y -> y.square(3, high, 2));
        }
        says("- `registers`: 0 to 4");
        String[] stays = {"-rrrr", "--rrr", "---rr", "----r", "-----"};
        for (int registers = 0; registers <= 4; registers++) {
            int r = registers;
            C.due("numbers that stay in " + r + " registers by two rests", stays[r],
                    () -> Scenes.bars(Scenes.pair(1, 1, r, 2), 1, 0, 1, 3, 5, 7, 9));
        }
        for (int registers : Scenes.outside(0, 4)) {
            refused("square with " + registers + " registers", ARGUMENT, y -> y.square(3, 3, registers));
        }
        says("Returns how many nodes were placed.");
        C.due("none of none", 0, () -> new Fabricmap().square(4, 4, 4));
        C.due("none of twelve", 0, () -> Scenes.twelve().square(4, 4, 4));
        Fabricmap z = Scenes.twelve();
        z.map();
        C.due("twelve of twelve", 12, () -> z.square(1, 1, 1));
        C.due("none the second time", 0, () -> z.square(1, 1, 1));
        says("Throws `IllegalArgumentException` if a number is out of range");
        refused("square of nothing right", ARGUMENT, y -> y.square(0, 5, -1));
        refused("the last number alone", ARGUMENT, y -> y.square(4, 4, 5));
    }

    private static void interval() {
        promise(3);
        says("Sets the interval; no node is placed then.");
        Fabricmap x = Scenes.rich();
        C.due("the same interval", 4, () -> x.interval(2));
        C.due("no routes", 0, () -> x.routes());
        C.due("no node at cell 1", -1, () -> x.at(1, 0));
        C.due("no register is taken", 0, () -> x.held(1, 1));
        C.due("no wire is taken", false, () -> x.isTaken(1, 'w', 0));
        C.due("a dead cell stays so", true, () -> x.heal(8));
        C.due("a cut wire stays so", true, () -> x.mend(5, 's'));
        C.due("nodes stay", 6, () -> x.nodes());
        says("- `interval`: 1 to 8");
        for (int interval = 1; interval <= 8; interval++) {
            int i = interval;
            C.due("interval " + i, 0, () -> x.interval(i));
            C.due("its last rest", -1, () -> x.at(0, i - 1));
            C.argument("no rest behind it", () -> x.at(0, i));
        }
        for (int interval : Scenes.outside(1, 8)) {
            refused("interval " + interval, ARGUMENT, y -> y.interval(interval));
        }
        says("Returns how many nodes were placed.");
        C.due("none of none", 0, () -> new Fabricmap().interval(8));
        Fabricmap z = Scenes.twelve();
        z.map();
        C.due("twelve of twelve", 12, () -> z.interval(1));
        C.due("none the second time", 0, () -> z.interval(1));
        z.place(3, 0, 0);
        C.due("one of twelve", 1, () -> z.interval(1));
        says("Throws `IllegalArgumentException` if it is out of range");
        C.refused("interval 0 of a new object", ARGUMENT, Fabricmap::new, y -> y.interval(0));
        C.refused("interval 9 of twelve nodes", ARGUMENT, Scenes::twelve, y -> y.interval(9));
    }

    private static void kill() {
        promise(4);
        says("Lets a cell be dead.");
        Fabricmap x = Scenes.rich();
        C.due("kill", 0, () -> x.kill(7));
        C.due("a dead cell bars", 'd', () -> x.bars(5, 7, 0));
        C.due("others do not", 'o', () -> x.bars(5, 6, 0));
        says("- `cell`: the cell");
        Fabricmap w = new Fabricmap();
        w.square(4, 4, 2);
        C.due("the first cell", 0, () -> w.kill(0));
        C.due("the last cell", 0, () -> w.kill(15));
        C.due("the last one is dead", true, () -> w.heal(15));
        C.due("the last but one is not", false, () -> w.heal(14));
        says("Returns how many nodes go.");
        C.due("the begin of a route: its node and the other one", 2, () -> Scenes.rich().kill(1));
        C.due("the begin and the end of routes", 2, () -> Scenes.rich().kill(0));
        C.due("the end of a route, and on the way of another one", 2, () -> Scenes.rich().kill(3));
        C.due("the end of two routes of one node", 1, () -> {
            Fabricmap y = Scenes.pair(2, 1, 2, 2);
            y.place(1, 1, 3);
            return y.kill(1);
        });
        C.due("a cell of none", 0, () -> Scenes.rich().kill(6));
        Fabricmap z = Scenes.twelve();
        z.square(1, 1, 0);
        z.interval(8);
        z.map();
        C.due("eight of twelve, all there were placed", 8, () -> z.kill(0));
        C.due("none are left", 0, () -> z.square(1, 1, 0));
        says("Throws `IndexOutOfBoundsException` if there is no such cell");
        for (int cell : Scenes.outside(0, 8)) {
            refused("kill " + cell, INDEX, y -> y.kill(cell));
        }
        Fabricmap v = Scenes.rich();
        v.square(2, 2, 2);
        C.index("a cell that was dead, and is no more", () -> v.kill(8));
        says("Throws `UnsupportedOperationException` if it is");
        refused("kill a dead cell", UNSUPPORTED, y -> y.kill(8));
    }

    private static void heal() {
        promise(5);
        says("Makes a cell whole.");
        Fabricmap x = Scenes.rich();
        C.due("dead", 'd', () -> x.bars(4, 8, 0));
        x.heal(8);
        C.due("whole, but not at the edge", 'e', () -> x.bars(4, 8, 0));
        C.due("it can be dead again", 0, () -> x.kill(8));
        says("- `cell`: the cell");
        Fabricmap w = new Fabricmap();
        w.square(4, 4, 2);
        w.kill(0);
        w.kill(15);
        C.due("the first cell", true, () -> w.heal(0));
        C.due("the last cell", true, () -> w.heal(15));
        says("Returns whether it was dead.");
        C.due("a whole one was not", false, () -> w.heal(15));
        C.due("nor was one between", false, () -> w.heal(7));
        C.due("a dead one was", true, () -> Scenes.rich().heal(8));
        says("Throws `IndexOutOfBoundsException` if there is no such cell");
        for (int cell : Scenes.outside(0, 8)) {
            refused("heal " + cell, INDEX, y -> y.heal(cell));
        }
    }

    private static void cut() {
        promise(6);
        says("Cuts a wire.");
        Fabricmap x = Scenes.pair(2, 1, 0, 1);
        C.due("along the wire", '-', () -> x.bars(1, 1, 2));
        x.cut(0, 'e');
        C.due("the wire is cut", 'r', () -> x.bars(1, 1, 2));
        C.due("the wire back is not", 0, () -> x.cut(1, 'w'));
        says("- `cell`: the cell from which it goes");
        Fabricmap w = new Fabricmap();
        w.square(4, 4, 2);
        C.due("from the first cell", 0, () -> w.cut(0, 'e'));
        C.due("from the last cell", 0, () -> w.cut(15, 'w'));
        C.due("not to the first cell", false, () -> w.mend(1, 'w'));
        C.due("not to the last cell", false, () -> w.mend(14, 'e'));
        says("- `way`: 'n', 'e', 's' or 'w'");
        for (char way : "nesw".toCharArray()) {
            C.due("way " + way, 0, () -> w.cut(5, way));
        }
        says("Returns how many nodes go.");
        C.due("a wire of none", 0, () -> Scenes.rich().cut(0, 'e'));
        C.due("of one route", 1, () -> Scenes.rich().cut(1, 'w'));
        C.due("of another route", 1, () -> Scenes.rich().cut(3, 'n'));
        C.due("of the store's route", 1, () -> Scenes.rich().cut(0, 's'));
        Fabricmap z = Scenes.pair(2, 1, 2, 8);
        for (int node = 2; node < 8; node++) {
            z.two('+', 0, 0, 0, 0);
            z.place(node, 1, node);
        }
        C.due("of six nodes", 6, () -> z.cut(0, 'e'));
        says("Throws `IndexOutOfBoundsException` if there is no such cell");
        for (int cell : Scenes.outside(0, 8)) {
            refused("cut at " + cell, INDEX, y -> y.cut(cell, 'n'));
        }
        refused("cut at no cell ahead of no way", INDEX, y -> y.cut(9, 'q'));
        says("Throws `IllegalArgumentException` if there is no such way, or no wire there");
        for (char way : new char[] {'.', '-', 'N', 'm', 'o', 'd', 'f', 'v', 'x', 0, 255, 'n' + 256, 0xFFFF}) {
            refused("cut the way " + (int) way, ARGUMENT, y -> y.cut(4, way));
        }
        refused("no wire up", ARGUMENT, y -> y.cut(2, 'n'));
        refused("no wire right", ARGUMENT, y -> y.cut(2, 'e'));
        refused("no wire down", ARGUMENT, y -> y.cut(6, 's'));
        refused("no wire left", ARGUMENT, y -> y.cut(6, 'w'));
        says("Throws `UnsupportedOperationException` if it is cut");
        refused("cut a cut wire", UNSUPPORTED, y -> y.cut(2, 'w'));
        C.due("cut a wire of a dead cell", 0, () -> Scenes.rich().cut(8, 'n'));
        C.due("cut a wire to a dead cell", 0, () -> Scenes.rich().cut(7, 'e'));
    }

    private static void mend() {
        promise(7);
        says("Makes a wire whole.");
        Fabricmap x = Scenes.pair(2, 1, 0, 1);
        x.cut(0, 'e');
        C.due("the wire is cut", 'r', () -> x.bars(1, 1, 2));
        x.mend(0, 'e');
        C.due("along the wire", '-', () -> x.bars(1, 1, 2));
        C.due("it can be cut again", 0, () -> x.cut(0, 'e'));
        says("- `cell`: the cell from which it goes");
        Fabricmap w = new Fabricmap();
        w.square(4, 4, 2);
        w.cut(0, 's');
        w.cut(15, 'n');
        C.due("not to the first cell", false, () -> w.mend(4, 'n'));
        C.due("from the first cell", true, () -> w.mend(0, 's'));
        C.due("not to the last cell", false, () -> w.mend(11, 's'));
        C.due("from the last cell", true, () -> w.mend(15, 'n'));
        says("- `way`: 'n', 'e', 's' or 'w'");
        for (char way : "nesw".toCharArray()) {
            w.cut(5, way);
        }
        for (char way : "nesw".toCharArray()) {
            C.due("way " + way, true, () -> w.mend(5, way));
        }
        says("Returns whether it was cut.");
        C.due("a whole one was not", false, () -> w.mend(5, 'w'));
        C.due("a cut one was", true, () -> Scenes.rich().mend(2, 'w'));
        C.due("the one back was not", false, () -> Scenes.rich().mend(1, 'e'));
        says("Throws `IndexOutOfBoundsException` if there is no such cell");
        for (int cell : Scenes.outside(0, 8)) {
            refused("mend at " + cell, INDEX, y -> y.mend(cell, 'n'));
        }
        refused("mend at no cell ahead of no way", INDEX, y -> y.mend(-1, 'q'));
        says("Throws `IllegalArgumentException` if there is no such way, or no wire there");
        for (char way : new char[] {'.', '-', 'W', 'm', 'o', 'd', 'f', 'r', 't', 0, 255, 'w' + 256, 0xFFFF}) {
            refused("mend the way " + (int) way, ARGUMENT, y -> y.mend(4, way));
        }
        refused("no wire up", ARGUMENT, y -> y.mend(0, 'n'));
        refused("no wire right", ARGUMENT, y -> y.mend(8, 'e'));
        refused("no wire down", ARGUMENT, y -> y.mend(8, 's'));
        refused("no wire left", ARGUMENT, y -> y.mend(0, 'w'));
    }

    private static void bank() {
        promise(8);
        says("Puts an array into a bank.");
        Fabricmap x = new Fabricmap();
        x.load(0, 0, 0);
        x.load(1, 0, 0);
        x.place(0, 0, 0);
        C.due("in one bank", 'b', () -> x.bars(1, 3, 0));
        x.bank(1, 1);
        C.due("in two banks", '-', () -> x.bars(1, 3, 0));
        x.bank(1, 0);
        C.due("in one bank again", 'b', () -> x.bars(1, 3, 0));
        says("- `array`: 0 to 3");
        Fabricmap y = new Fabricmap();
        for (int array = 0; array <= 3; array++) {
            int a = array;
            C.due("array " + array, 0, () -> y.bank(a, 1));
        }
        for (int array : Scenes.outside(0, 3)) {
            refused("array " + array, ARGUMENT, z -> z.bank(array, 0));
        }
        says("- `bank`: 0 or 1");
        C.due("bank 0", 1, () -> y.bank(2, 0));
        C.due("bank 1", 0, () -> y.bank(2, 1));
        for (int bank : Scenes.outside(0, 1)) {
            refused("bank " + bank, ARGUMENT, z -> z.bank(2, bank));
        }
        says("Returns the bank before.");
        C.due("1 behind 1", 1, () -> y.bank(2, 1));
        C.due("of another array", 1, () -> Scenes.rich().bank(1, 0));
        C.due("0 at first", 0, () -> new Fabricmap().bank(3, 0));
        says("Throws `IllegalArgumentException` if there is no such array or bank");
        refused("neither is there", ARGUMENT, z -> z.bank(4, 2));
        refused("no such bank, of an array of a store that is placed", ARGUMENT, z -> z.bank(0, 2));
        says("Throws `UnsupportedOperationException` if a load or store of it is placed");
        refused("a store of it is placed", UNSUPPORTED, z -> z.bank(0, 1));
        refused("the bank in which it is", UNSUPPORTED, z -> z.bank(0, 0));
        Fabricmap v = Scenes.rich();
        C.due("a load of it is not placed", 1, () -> v.bank(1, 1));
        v.place(4, 6, 0);
        C.unsupported("a load of it is placed", () -> v.bank(1, 1));
        C.due("none of that array is", 0, () -> v.bank(2, 1));
        v.lift(4);
        C.due("the load is no more", 1, () -> v.bank(1, 0));
        Fabricmap w = new Fabricmap();
        w.load(3, 0, 0);
        w.place(0, 0, 0);
        C.unsupported("the first node is a load of it", () -> w.bank(3, 1));
        C.due("or of the next array", 0, () -> w.bank(2, 1));
    }

    private static void set() {
        promise(9);
        says("Sets a number of an array.");
        Fabricmap x = new Fabricmap();
        x.set(2, 7, 19);
        C.due("it is there", 19, () -> x.get(2, 7));
        C.due("not in the next place", 0, () -> x.get(2, 8));
        C.due("not in the next array", 0, () -> x.get(3, 7));
        says("- `array`: 0 to 3");
        for (int array = 0; array <= 3; array++) {
            int a = array;
            C.due("array " + array, 0, () -> x.set(a, 3, a + 100));
        }
        C.due("each has its own", "100 101 102 103",
                () -> x.get(0, 3) + " " + x.get(1, 3) + " " + x.get(2, 3) + " " + x.get(3, 3));
        for (int array : Scenes.outside(0, 3)) {
            refused("array " + array, ARGUMENT, y -> y.set(array, 3, 1));
        }
        says("- `place`: 0 to 15");
        C.due("place 0", 0, () -> x.set(3, 0, 5));
        C.due("place 15", 0, () -> x.set(3, 15, 6));
        C.due("both", 56, () -> 10 * x.get(3, 0) + x.get(3, 15));
        for (int place : Scenes.outside(0, 15)) {
            refused("place " + place, ARGUMENT, y -> y.set(1, place, 1));
        }
        says("- `number`: the number");
        for (int number : new int[] {0, 1, -1, LOW, HIGH}) {
            C.due("number " + number, number, () -> {
                x.set(0, 0, number);
                return x.get(0, 0);
            });
        }
        says("Returns the number before.");
        C.due("the last one", HIGH, () -> x.set(0, 0, LOW));
        C.due("and the next", LOW, () -> x.set(0, 0, LOW));
        C.due("0 at first", 0, () -> new Fabricmap().set(0, 0, 9));
        says("Throws `IllegalArgumentException` if there is no such array or place");
        refused("neither is there", ARGUMENT, y -> y.set(4, 16, 1));
        C.due("an array in use can be set", 4, () -> Scenes.rich().set(0, 2, 1));
    }

    private static void get() {
        promise(10);
        says("Returns a number of an array.");
        Fabricmap x = Scenes.rich();
        C.due("one that was set", 5, () -> x.get(0, 1));
        C.due("one that was stored", 4, () -> x.get(0, 2));
        says("- `array`: 0 to 3");
        C.due("array 0", 0, () -> x.get(0, 0));
        C.due("array 3", 0, () -> x.get(3, 0));
        for (int array : Scenes.outside(0, 3)) {
            refused("array " + array, ARGUMENT, y -> y.get(array, 3));
        }
        says("- `place`: 0 to 15");
        C.due("place 15", -3, () -> x.get(1, 15));
        C.due("place 0 behind it", 0, () -> x.get(2, 0));
        for (int place : Scenes.outside(0, 15)) {
            refused("place " + place, ARGUMENT, y -> y.get(1, place));
        }
        says("Returns the number.");
        C.due("as often as it is asked", "8 8", () -> x.get(1, 13) + " " + x.get(1, 13));
        says("Throws `IllegalArgumentException` if there is no such array or place");
        refused("neither is there", ARGUMENT, y -> y.get(-1, -1));
    }
}
