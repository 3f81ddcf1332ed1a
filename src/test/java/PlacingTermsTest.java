import java.io.IOException;
import java.nio.file.Files;
import java.nio.file.Path;

/** A test for each sentence of the document's terms from the placing on: times, routes, bars, runs, exceptions. */
public final class PlacingTermsTest {
    private static final String INDEX = "IndexOutOfBoundsException";
    private static final String ARGUMENT = "IllegalArgumentException";
    private static final String STATE = "IllegalStateException";
    private static final String UNSUPPORTED = "UnsupportedOperationException";
    private static final Check C = new Check();
    private static Sentences sentences;

    /** Takes the document's path. */
    public static void main(String[] args) throws IOException {
        sentences = new Sentences(C, Files.readString(Path.of(args[0])), "Placing. The interval", "## Promise 1:");
        interval();
        times();
        oneByARest();
        order();
        orderByRounds();
        routes();
        beats();
        registersAndWires();
        ends();
        oneNumber();
        firstByLetters();
        laidOneByOne();
        laidAmongTheFirst();
        bars();
        barsAlone();
        map();
        takenAway();
        dies();
        isCut();
        least();
        leastByRings();
        runs();
        energy();
        exceptions();
        examples();
        sentences.end();
        C.end("PlacingTermsTest");
    }

    private static void says(String words) {
        sentences.says("", words);
    }

    /** Nodes that do not need each other, and a square for them. */
    private static Fabricmap alone(int wide, int high, int interval, int nodes) {
        Fabricmap x = new Fabricmap();
        x.square(wide, high, 2);
        x.interval(interval);
        for (int node = 0; node < nodes; node++) {
            x.constant(node);
        }
        return x;
    }

    private static void interval() {
        says("Placing. The interval, 1 to 8, 2 at first, is how many beats behind a round the next one begins; its beats"
                + " are told by their rests by the interval.");
        Fabricmap x = new Fabricmap();
        x.constant(1);
        x.place(0, 0, 0);
        C.due("two rounds by the interval at first", 3, () -> x.run(2));
        for (int interval = 1; interval <= 8; interval++) {
            int i = interval;
            Fabricmap y = alone(1, 1, interval, 1);
            y.place(0, 0, 31);
            C.due("two rounds by " + i, 32 + i, () -> y.run(2));
            for (int rest = 0; rest < interval; rest++) {
                int r = rest;
                C.due("rest " + r + " of " + i, 31 % i == r ? 0 : -1, () -> y.at(0, r));
            }
            C.argument("rest " + i + " of " + i, () -> y.at(0, i));
        }
        C.refused("interval 0", ARGUMENT, Scenes::rich, y -> y.interval(0));
        C.refused("interval 9", ARGUMENT, Scenes::rich, y -> y.interval(9));
    }

    private static void times() {
        says("A node is placed at a cell and a time, 0 to 31: it is done there at that beat, and so many intervals later"
                + " for each further round.");
        for (int time : new int[] {0, 1, 30, 31}) {
            Fabricmap x = alone(2, 2, 3, 1);
            C.due("place at " + time, 0, () -> x.place(0, 3, time));
            C.due("there", 303 + time, () -> 100 * x.cellOf(0) + x.timeOf(0) + 3);
            C.due("one round", time + 1, () -> x.run(1));
            C.due("sixteen rounds", time + 1 + 45, () -> x.run(16));
        }
        C.refused("time -1", ARGUMENT, Scenes::rich, x -> x.place(4, 0, -1));
        C.refused("time 32", ARGUMENT, Scenes::rich, x -> x.place(4, 0, 32));
        says("Its number is in the cell from the next beat on.");
        Fabricmap y = Scenes.pair(2, 1, 0, 8);
        C.due("not at its beat, in the next cell", 'o', () -> y.bars(1, 1, 0));
        C.due("at the next beat, in its cell alone", "r-", () -> "" + y.bars(1, 1, 1) + y.bars(1, 0, 1));
        C.due("a beat later, in the next cell", '-', () -> y.bars(1, 1, 2));
    }

    private static void oneByARest() {
        says("A cell does one node at most by a rest of the time,");
        Fabricmap x = alone(2, 1, 3, 5);
        x.place(0, 0, 4);
        C.due("its rest", "ccccc", () -> Scenes.bars(x, 1, 0, 1, 4, 7, 28, 31));
        C.due("other rests", "-------", () -> Scenes.bars(x, 1, 0, 0, 2, 3, 5, 6, 29, 30));
        C.due("another cell", "--", () -> Scenes.bars(x, 1, 1, 4, 7));
        x.place(1, 0, 0);
        x.place(2, 0, 31 - 2);
        C.due("all rests are used", "cccccc", () -> Scenes.bars(x, 3, 0, 0, 1, 2, 29, 30, 31));
        C.due("which", "1 0 2", () -> x.at(0, 0) + " " + x.at(0, 1) + " " + x.at(0, 2));
        C.unsupported("one more", () -> x.place(3, 0, 3));
        says("a bank is used by one load or store at most by a rest.");
        Fabricmap y = new Fabricmap();
        y.square(1, 4, 2);
        y.interval(3);
        y.bank(2, 1);
        y.load(0, 0, 0);
        y.load(1, 0, 0);
        y.load(2, 0, 0);
        y.load(1, 0, 0);
        y.load(1, 0, 0);
        y.store(3, 0, 0, 0, 3);
        y.constant(1);
        y.place(0, 0, 4);
        C.due("its rest", "bbbbb", () -> Scenes.bars(y, 1, 1, 1, 4, 7, 28, 31));
        C.due("other rests", "----", () -> Scenes.bars(y, 1, 1, 0, 2, 29, 30));
        C.due("for a store", "b", () -> Scenes.bars(y, 5, 1, 1));
        C.due("the other bank", "--", () -> Scenes.bars(y, 2, 1, 1, 4));
        C.due("no load nor store", '-', () -> y.bars(6, 1, 4));
        y.place(1, 1, 0);
        y.place(3, 2, 2);
        C.due("all rests are used", "bbbbbb", () -> Scenes.bars(y, 4, 3, 0, 1, 2, 29, 30, 31));
        C.due("the other bank is not", "---", () -> Scenes.bars(y, 2, 3, 0, 1, 2));
        says("Loads and stores are placed at the edge.");
        C.due("a load", "-eee", () -> edges('l'));
        C.due("a store", "-eee", () -> edges('s'));
        C.due("others anywhere", "----", () -> edges('k'));
    }

    private static String edges(char kind) {
        Fabricmap x = new Fabricmap();
        x.square(4, 1, 0);
        int constant = x.constant(0);
        int node = kind == 'l' ? x.load(0, 0, 0) : kind == 's' ? x.store(0, 0, 0, constant, 0) : constant;
        StringBuilder text = new StringBuilder();
        for (int cell = 0; cell < 4; cell++) {
            text.append(x.bars(node, cell, 0));
        }
        return text.toString();
    }

    /** A number (0), loads (1, 2), stores (3, 4) and a load (5) of one place, a store (6) to another array. */
    private static Fabricmap onePlace() {
        Fabricmap x = new Fabricmap();
        x.interval(8);
        x.constant(1);
        x.load(0, 0, 5);
        x.load(0, 0, 5);
        x.store(0, 0, 5, 0, 0);
        x.store(0, 0, 5, 0, 0);
        x.load(0, 0, 5);
        x.store(1, 0, 5, 0, 0);
        return x;
    }

    private static void order() {
        says("Two loads or stores of one array, one at least being a store, must keep their order:");
        Fabricmap x = onePlace();
        x.place(1, 0, 10);
        C.due("two loads", "----", () -> Scenes.bars(x, 2, 3, 0, 9, 11, 31));
        C.due("a store behind the load, ahead of the next round's", "mmb--bm",
                () -> Scenes.bars(x, 3, 3, 8, 9, 10, 11, 17, 18, 19));
        C.due("a store to another array", "----", () -> Scenes.bars(x, 6, 3, 8, 9, 11, 19));
        x.lift(1);
        x.place(3, 0, 10);
        C.due("two stores", "mmb--bm", () -> Scenes.bars(x, 4, 3, 8, 9, 10, 11, 17, 18, 19));
        C.due("a load behind the store", "mmb--bm", () -> Scenes.bars(x, 5, 3, 8, 9, 10, 11, 17, 18, 19));
        C.due("a load ahead of the store", "mb--bmm", () -> Scenes.bars(x, 1, 3, 1, 2, 3, 9, 10, 11, 12));
        x.lift(3);
        x.place(5, 0, 10);
        C.due("a store ahead of a load", "mb--bmm", () -> Scenes.bars(x, 3, 3, 1, 2, 3, 9, 10, 11, 12));
        C.due("a load and a load behind it", "--", () -> Scenes.bars(x, 1, 3, 1, 12));
        x.place(3, 3, 5);
        C.due("between a store and a load", "mmb--b-m", () -> Scenes.bars(x, 4, 6, 3, 4, 5, 6, 9, 10, 8, 11));
        Fabricmap y = new Fabricmap();
        y.interval(8);
        y.load(0, 0, 5);
        y.store(0, 0, 5, 0, 1);
        y.place(0, 0, 10);
        C.due("a store behind the first node of all", "mmb-bm", () -> Scenes.bars(y, 1, 3, 8, 9, 10, 11, 18, 19));
        y.lift(0);
        y.place(1, 3, 10);
        C.due("the first node of all ahead of a store", "mb--bm", () -> Scenes.bars(y, 0, 0, 1, 2, 9, 9, 10, 11));
    }

    /** A number (0), and a load that goes through all places, and a store to the first place, which comes first. */
    private static Fabricmap onceIn(int offset, boolean loadComesFirst) {
        Fabricmap x = new Fabricmap();
        x.interval(4);
        x.constant(1);
        if (loadComesFirst) {
            x.load(0, 1, offset);
        }
        x.store(0, 0, 0, 0, 0);
        if (!loadComesFirst) {
            x.load(0, 1, offset);
        }
        return x;
    }

    private static void orderByRounds() {
        says("whenever one of them in a round from 0 to 15, and the other one in such a round, have one place, the one"
                + " that the loop does first is at an earlier beat.");
        Fabricmap x = onceIn(0, true);
        x.place(1, 0, 6);
        C.due("the load of the round 0, and no round 16", "mmb-b---",
                () -> Scenes.bars(x, 2, 3, 1, 5, 6, 7, 10, 11, 29, 31));
        Fabricmap y = onceIn(1, false);
        y.place(2, 0, 6);
        C.due("the load of the round 15 behind all stores", "----mmb",
                () -> Scenes.bars(y, 1, 3, 0, 3, 4, 5, 7, 31, 6));
        Fabricmap z = onceIn(1, true);
        z.place(1, 0, 6);
        C.due("the load of the round 15 between the last two stores", "mmb---bmm",
                () -> Scenes.bars(z, 2, 3, 4, 5, 6, 7, 8, 9, 10, 11, 13));
        Fabricmap w = onceIn(0, false);
        w.place(2, 0, 6);
        C.due("the load of the round 0 between the first two stores", "mmb---bmm",
                () -> Scenes.bars(w, 1, 3, 0, 1, 2, 3, 4, 5, 6, 7, 8));
        Fabricmap v = new Fabricmap();
        v.interval(4);
        v.constant(1);
        v.load(0, 2, 0);
        v.store(0, -2, 15, 0, 0);
        v.place(1, 0, 14);
        C.due("places that are never one", "--b--", () -> Scenes.bars(v, 2, 3, 0, 13, 14, 15, 31));
        Fabricmap u = new Fabricmap();
        u.interval(2);
        u.constant(1);
        u.load(0, 1, 0);
        u.store(0, 1, 15, 0, 0);
        u.place(1, 0, 0);
        C.due("the store of the round 0 ahead of the load of the round 15", "-b--m",
                () -> Scenes.bars(u, 2, 3, 1, 0, 3, 29, 31));
        Fabricmap t = new Fabricmap();
        t.interval(2);
        t.constant(1);
        t.load(0, 1, 3);
        t.store(0, 1, 0, 0, 0);
        t.place(1, 0, 10);
        C.due("a place that was loaded 3 rounds ahead, and is loaded 13 rounds later", "mmb---",
                () -> Scenes.bars(t, 2, 3, 1, 3, 4, 5, 11, 29));
    }

    private static void routes() {
        says("Routes. Between a placed node and one that has it as an operand, and is placed, there is a route:");
        Fabricmap x = new Fabricmap();
        x.interval(4);
        x.constant(1);
        x.constant(2);
        x.choice(0, 1, 0);
        x.place(2, 4, 6);
        C.due("its operands are not placed", 0, () -> x.routes());
        C.due("one of them is placed, which it has twice", 2, () -> x.place(0, 4, 0));
        C.due("both are", 1, () -> x.place(1, 3, 1));
        C.due("three routes", "5 4 5", () -> x.length(2, 0) + " " + x.length(2, 1) + " " + x.length(2, 2));
        x.lift(2);
        C.due("the user is not placed", 0, () -> x.routes());
        Fabricmap y = Scenes.summing(3);
        C.due("to itself", 1, () -> y.place(1, 0, 0));
        C.due("nodes without operands", 0, () -> {
            Fabricmap z = alone(2, 2, 8, 12);
            z.map();
            return z.routes();
        });
    }

    /** What bars a sum at the cell beside its operand's, which is done at the beat 4, at some times. */
    private static String barsFar(int distance, int... times) {
        Fabricmap x = new Fabricmap();
        x.square(2, 1, 4);
        x.constant(1);
        x.two('+', 0, distance, 0, distance);
        x.place(0, 0, 4);
        return Scenes.bars(x, 1, 1, times);
    }

    /** What bars the operand of a sum that is done at the cell beside it, at the beat 16, at some times. */
    private static String barsOperand(int distance, int... times) {
        Fabricmap x = new Fabricmap();
        x.square(2, 1, 4);
        x.constant(1);
        x.two('+', 0, distance, 0, distance);
        x.place(1, 1, 16);
        return Scenes.bars(x, 0, 0, times);
    }

    private static void beats() {
        says("from the beat behind the one of the operand's node up to the beat of the other one, so many intervals later"
                + " as the distance tells, that one aside.");
        C.due("in the same round", "or--o", () -> barsFar(0, 4, 5, 6, 13, 14));
        C.due("in the next round", "or--o", () -> barsFar(1, 2, 3, 4, 11, 12));
        C.due("two rounds later", "or--o", () -> barsFar(2, 0, 1, 2, 9, 10));
        C.due("three rounds later", "--o", () -> barsFar(3, 0, 7, 8));
        C.due("the operand behind its user, in the same round", "o--ro", () -> barsOperand(0, 6, 7, 14, 15, 16));
        C.due("the operand of the round ahead", "o--ro", () -> barsOperand(1, 8, 9, 16, 17, 18));
        C.due("the operand of two rounds ahead", "o--ro", () -> barsOperand(2, 10, 11, 18, 19, 20));
        C.due("the operand of three rounds ahead", "o--ro", () -> barsOperand(3, 12, 13, 20, 21, 22));
        Fabricmap x = Scenes.pair(2, 1, 4, 2);
        x.two('-', 0, 1, 0, 3);
        x.place(2, 1, 1);
        C.due("beats of a round and of three", "2 6", () -> x.length(2, 0) + " " + x.length(2, 1));
        says("It has 0 to 8 beats;");
        Fabricmap y = Scenes.pair(1, 1, 4, 8);
        C.due("0 to 8 beats in a cell", "c--c", () -> Scenes.bars(y, 1, 0, 0, 1, 7, 8));
        C.due("8 beats", '-', () -> y.bars(1, 0, 9));
        C.due("9 beats", 'o', () -> y.bars(1, 0, 10));
        y.place(1, 0, 9);
        C.due("so many", 8, () -> y.length(1, 0));
        y.lift(1);
        y.place(1, 0, 1);
        C.due("none", 0, () -> y.length(1, 1));
        Fabricmap z = Scenes.summing(1);
        z.square(1, 1, 4);
        int[][] rings = {{1, 1, 0}, {8, 1, 7}, {3, 3, 8}, {4, 2, 7}};
        for (int[] ring : rings) {
            z.interval(ring[0]);
            z.feed(1, 1, 1, ring[1]);
            C.due("to itself by " + ring[0] + " times " + ring[1], "--", () -> Scenes.bars(z, 1, 0, 0, 31));
            z.place(1, 0, 0);
            C.due("so many", ring[2], () -> z.length(1, 1));
            z.lift(1);
        }
        for (int[] ring : new int[][] {{5, 2}, {8, 2}, {4, 3}, {8, 3}}) {
            z.interval(ring[0]);
            z.feed(1, 1, 1, ring[1]);
            C.due("to itself by " + ring[0] + " times " + ring[1], "oo", () -> Scenes.bars(z, 1, 0, 0, 31));
        }
    }

    private static String heldByRests(Fabricmap x, int cell, int rests) {
        StringBuilder text = new StringBuilder();
        for (int rest = 0; rest < rests; rest++) {
            text.append(x.held(cell, rest));
        }
        return text.toString();
    }

    private static String takenByRests(Fabricmap x, int cell, char way, int rests) {
        StringBuilder text = new StringBuilder();
        for (int rest = 0; rest < rests; rest++) {
            text.append(x.isTaken(cell, way, rest) ? way : '-');
        }
        return text.toString();
    }

    private static void registersAndWires() {
        says("in each the number stays in its cell, '.', which takes one of the registers of the cell by the rest of this"
                + " beat,");
        Fabricmap x = Scenes.pair(2, 1, 1, 5);
        x.place(1, 0, 4);
        C.due("it stays", "...", () -> Scenes.route(x, 1, 0));
        C.due("by the rests of its beats", "01110", () -> heldByRests(x, 0, 5));
        C.due("nowhere else", "00000", () -> heldByRests(x, 1, 5));
        x.constant(9);
        x.two('-', 2, 0, 2, 0);
        C.due("another number, by a rest that is full", "r", () -> {
            x.place(2, 0, 1);
            return Scenes.bars(x, 3, 0, 3);
        });
        C.due("another number, by rests that are not", "-", () -> {
            x.lift(2);
            x.place(2, 0, 13);
            return Scenes.bars(x, 3, 0, 16);
        });
        says("or goes along a wire to the next cell, which takes the wire by the rest;");
        Fabricmap y = Scenes.pair(4, 1, 0, 5);
        y.place(1, 3, 4);
        C.due("it goes", "eee", () -> Scenes.route(y, 1, 0));
        C.due("the first wire by the rest of the first beat", "-e---", () -> takenByRests(y, 0, 'e', 5));
        C.due("the second one by that of the second", "--e--", () -> takenByRests(y, 1, 'e', 5));
        C.due("the third one by that of the third", "---e-", () -> takenByRests(y, 2, 'e', 5));
        C.due("none back", "-----", () -> takenByRests(y, 1, 'w', 5));
        C.due("no register", "00000", () -> heldByRests(y, 0, 5));
        y.constant(9);
        y.two('-', 2, 0, 2, 0);
        C.due("another number, by a rest that is taken", "r", () -> {
            y.place(2, 1, 1);
            return Scenes.bars(y, 3, 2, 3);
        });
        C.due("another number, by one that is not", "-", () -> {
            y.lift(2);
            y.place(2, 1, 2);
            return Scenes.bars(y, 3, 2, 4);
        });
    }

    private static void ends() {
        says("it is in the cell of the other one behind them.");
        Fabricmap x = Scenes.pair(3, 3, 0, 8);
        String[] due = {"-r-r-r-", "r-r-r-r", "rr-r-r-"};
        int[] cells = {0, 1, 2};
        for (int i = 0; i < 3; i++) {
            int cell = cells[i];
            C.due("without registers, at cell " + cell, due[i], () -> Scenes.bars(x, 1, cell, 1, 2, 3, 4, 5, 6, 7));
        }
        C.due("four wires away", "rrr-r-r", () -> Scenes.bars(x, 1, 8, 2, 3, 4, 5, 6, 7, 8));
        Fabricmap y = Scenes.pair(4, 4, 2, 8);
        C.due("six wires away", "rr----", () -> Scenes.bars(y, 1, 15, 5, 6, 7, 8, 9, 8));
        y.place(1, 15, 7);
        C.due("there in time", "eeesss", () -> Scenes.route(y, 1, 0));
    }

    private static void oneNumber() {
        says("One and the same number, that is of one node and at one beat, takes a register or wire once for all its"
                + " routes;");
        Fabricmap x = Scenes.pair(3, 1, 1, 8);
        x.two('-', 0, 0, 0, 0);
        x.place(1, 1, 3);
        x.place(2, 2, 4);
        C.due("four routes", ".e .e .ee .ee", () -> Scenes.route(x, 1, 0) + " " + Scenes.route(x, 1, 1) + " "
                + Scenes.route(x, 2, 0) + " " + Scenes.route(x, 2, 1));
        C.due("one register", "01000000", () -> heldByRests(x, 0, 8));
        x.lift(1);
        C.due("which is taken still", "01000000", () -> heldByRests(x, 0, 8));
        C.due("as is the wire", "--e-----", () -> takenByRests(x, 0, 'e', 8));
        x.lift(2);
        C.due("and then no more", "00000000", () -> heldByRests(x, 0, 8));
        C.due("nor the wire", "--------", () -> takenByRests(x, 0, 'e', 8));
        says("at another beat of the same rest it is another number, in one route, too.");
        C.due("a register, in one route", "-rr", () -> Scenes.bars(Scenes.pair(1, 1, 1, 2), 1, 0, 3, 5, 7));
        C.due("a wire, in one route", "-rr", () -> Scenes.bars(Scenes.pair(2, 1, 0, 2), 1, 1, 2, 4, 6));
        C.due("by a longer interval it is free", "--r", () -> Scenes.bars(Scenes.pair(2, 1, 0, 4), 1, 1, 2, 4, 6));
        Fabricmap y = Scenes.pair(2, 1, 1, 2);
        y.two('-', 0, 0, 0, 0);
        y.place(1, 1, 2);
        y.place(2, 1, 5);
        C.due("in two routes: not along the wire at the beat 3", ".e..", () -> Scenes.route(y, 2, 0));
        C.due("the wire by both rests", "ee", () -> takenByRests(y, 0, 'e', 2));
        Fabricmap z = Scenes.pair(1, 1, 2, 2);
        C.due("two numbers of one node in two registers", "22", () -> {
            z.place(1, 0, 5);
            return heldByRests(z, 0, 2);
        });
    }

    /** The way from a cell to one, without registers, some wires of the first cell being cut. */
    private static String way(int from, int to, int time, String cuts) {
        Fabricmap x = new Fabricmap();
        x.square(3, 3, 0);
        x.interval(8);
        for (char way : cuts.toCharArray()) {
            x.cut(from, way);
        }
        x.constant(1);
        x.two('+', 0, 0, 0, 0);
        x.place(0, from, 0);
        x.place(1, to, time);
        return Scenes.route(x, 1, 0);
    }

    private static void firstByLetters() {
        says("Of all routes that are free it is the first one, by the letters of its beats, '.' ahead of 'n', 'e', 's',"
                + " 'w'.");
        C.due("n is the first way", "ns", () -> way(4, 4, 3, ""));
        C.due("e is the next one", "ew", () -> way(4, 4, 3, "n"));
        C.due("s is the next one", "sn", () -> way(4, 4, 3, "ne"));
        C.due("w is the last one", "we", () -> way(4, 4, 3, "nes"));
        C.due("e ahead of s", "eess", () -> way(0, 8, 5, ""));
        C.due("n ahead of w", "nnww", () -> way(8, 0, 5, ""));
        C.due("s ahead of w", "ssww", () -> way(2, 6, 5, ""));
        C.due("n ahead of e", "nnee", () -> way(6, 2, 5, ""));
        C.due("the long way: e, as nothing leads up from there, and then up as often as may be", "nesnsnsw",
                () -> way(4, 4, 9, ""));
        Fabricmap x = Scenes.pair(3, 3, 2, 8);
        x.place(1, 4, 5);
        C.due("it stays ahead of all", "..es", () -> Scenes.route(x, 1, 0));
        Fabricmap y = Scenes.pair(3, 3, 1, 2);
        y.place(1, 4, 5);
        C.due("as long as it is free", "..es", () -> Scenes.route(y, 1, 0));
        y.lift(1);
        y.place(1, 1, 6);
        C.due("and stays again in the next cell", "..e..", () -> Scenes.route(y, 1, 0));
        Fabricmap z = new Fabricmap();
        z.square(2, 2, 0);
        z.interval(1);
        z.constant(1);
        z.constant(2);
        z.two('+', 0, 0, 0, 0);
        z.two('+', 1, 0, 1, 0);
        z.place(0, 0, 0);
        z.place(2, 3, 3);
        z.place(1, 2, 0);
        z.place(3, 1, 3);
        C.due("the first one", "es", () -> Scenes.route(z, 2, 0));
        C.due("the first one that is free", "en", () -> Scenes.route(z, 3, 0));
    }

    /** The routes to each operand of two nodes. */
    private static String fourRoutes(Fabricmap x, int one, int other) {
        return Scenes.route(x, one, 0) + "," + Scenes.route(x, one, 1) + " " + Scenes.route(x, other, 0) + ","
                + Scenes.route(x, other, 1);
    }

    private static void laidOneByOne() {
        says("As a node is placed, its routes are laid one by one:");
        Fabricmap x = Scenes.pair(2, 1, 1, 2);
        x.constant(5);
        x.two('-', 0, 0, 2, 0);
        x.place(2, 0, 1);
        C.due("the second route is free by itself", '-', () -> {
            x.lift(0);
            char letter = x.bars(3, 1, 3);
            x.place(0, 0, 0);
            return letter;
        });
        C.due("and laid behind the first one", ".e,", () -> {
            x.lift(2);
            x.place(3, 1, 3);
            return Scenes.route(x, 3, 0) + ",";
        });
        C.due("which has taken its wire", 'r', () -> x.bars(2, 0, 1));
        says("those from its operands in their order,");
        Fabricmap y = twoOperands(0, 1);
        C.due("the first one goes right", ".es,se", () -> Scenes.route(y, 2, 0) + "," + Scenes.route(y, 2, 1));
        Fabricmap z = twoOperands(1, 0);
        C.due("the other one goes right", "es,.se", () -> Scenes.route(z, 2, 0) + "," + Scenes.route(z, 2, 1));
        says("then those to others by their numbers and operands;");
        Fabricmap w = ahead(2, 1, 1, 3);
        w.two('+', 0, 1, 0, 1);
        w.two('+', 0, 0, 0, 0);
        w.feed(2, 0, 1, 1);
        w.place(2, 0, 6);
        w.place(0, 1, 4);
        w.place(1, 1, 5);
        C.due("from operands first", "...,... w..,w", () -> fourRoutes(w, 1, 2));
        Fabricmap v = ahead(1, 2, 2, 2);
        v.two('+', 0, 0, 0, 0);
        v.two('+', 0, 1, 1, 0);
        v.place(2, 0, 7);
        v.place(1, 1, 5);
        v.place(0, 0, 2);
        C.due("to the lesser number first", ".s,.s ..s.n.,n", () -> fourRoutes(v, 1, 2));
        Fabricmap u = ahead(1, 2, 2, 2);
        u.two('+', 0, 0, 0, 1);
        u.two('+', 1, 0, 1, 0);
        u.feed(2, 0, 0, 1);
        u.place(2, 0, 8);
        u.place(1, 0, 7);
        u.place(0, 1, 5);
        C.due("to both its operands, then to the next node", "n,.n. .n..,", () -> fourRoutes(u, 1, 2));
        Fabricmap t = ahead(2, 1, 2, 2);
        t.two('+', 0, 1, 0, 1);
        t.feed(1, 1, 0, 2);
        t.place(1, 1, 7);
        t.place(0, 0, 6);
        C.due("to the lesser operand first", ".e,..e.", () -> Scenes.route(t, 1, 0) + "," + Scenes.route(t, 1, 1));
    }

    private static Fabricmap ahead(int wide, int high, int registers, int interval) {
        Fabricmap x = new Fabricmap();
        x.square(wide, high, registers);
        x.interval(interval);
        x.round();
        return x;
    }

    /** Two numbers of one cell, both of which would go right by the same rest, to a node (2). */
    private static Fabricmap twoOperands(int one, int other) {
        Fabricmap x = new Fabricmap();
        x.constant(1);
        x.constant(2);
        x.two('-', one, 0, other, 0);
        x.place(0, 0, 0);
        x.place(1, 0, 1);
        x.place(2, 4, 4);
        return x;
    }

    private static void laidAmongTheFirst() {
        says("one to itself is among the first.");
        Fabricmap x = ahead(1, 2, 1, 3);
        x.two('+', 0, 0, 0, 0);
        x.feed(1, 1, 1, 1);
        x.place(0, 1, 3);
        x.place(1, 1, 7);
        C.due("as the second operand, behind the first", "...,ns",
                () -> Scenes.route(x, 1, 0) + "," + Scenes.route(x, 1, 1));
        Fabricmap y = ahead(2, 1, 2, 2);
        y.two('+', 0, 0, 0, 0);
        y.feed(1, 0, 1, 2);
        y.place(0, 0, 5);
        y.place(1, 0, 8);
        C.due("as the first operand, ahead of the second", "...,ew",
                () -> Scenes.route(y, 1, 0) + "," + Scenes.route(y, 1, 1));
        Fabricmap z = ahead(1, 2, 2, 4);
        z.two('+', 0, 1, 0, 1);
        z.feed(1, 1, 1, 2);
        z.two('+', 1, 1, 0, 1);
        z.place(0, 0, 4);
        z.place(2, 1, 2);
        z.place(1, 0, 2);
        C.due("ahead of those to others", ".,.....sn s..,s", () -> fourRoutes(z, 1, 2));
        C.due("and not once more with them", 5, () -> {
            z.lift(1);
            return z.place(1, 0, 2) + z.routes() - 2;
        });
    }

    /** A number (0) at the beat 14, a load (1) at the beat 12, and a store (2) that must come behind both. */
    private static Fabricmap barred() {
        Fabricmap x = new Fabricmap();
        x.interval(8);
        x.constant(1);
        x.load(0, 0, 0);
        x.store(0, 0, 0, 0, 0);
        x.place(0, 4, 14);
        x.place(1, 0, 12);
        return x;
    }

    private static void bars() {
        Fabricmap x = barred();
        x.kill(5);
        says("What bars a node is the first of these: 'p' it is placed;");
        C.due("ahead of a dead cell, no edge, the bank, the order, too few beats", 'p', () -> x.bars(1, 5, 4));
        C.due("ahead of the edge", 'p', () -> x.bars(1, 1, 12));
        C.due("ahead of the cell that does it", 'p', () -> x.bars(1, 0, 12));
        C.due("where nothing else bars", 'p', () -> x.bars(1, 3, 12));
        says("'d' the cell is dead;");
        C.due("ahead of no edge, the bank, the order, too few beats", 'd', () -> x.bars(2, 5, 4));
        x.kill(6);
        C.due("ahead of the bank, the order, too few beats", 'd', () -> x.bars(2, 6, 4));
        C.due("ahead of the order", 'd', () -> x.bars(2, 6, 3));
        C.due("ahead of too few beats", 'd', () -> x.bars(2, 6, 13));
        C.due("ahead of no free route", 'd', () -> x.bars(2, 6, 15));
        says("'e' it must be at the edge;");
        C.due("ahead of the bank, the order, too few beats", 'e', () -> x.bars(2, 8, 4));
        C.due("ahead of the cell that does another one", 'e', () -> x.bars(2, 4, 6));
        C.due("ahead of the order", 'e', () -> x.bars(2, 8, 3));
        C.due("ahead of too few beats", 'e', () -> x.bars(2, 8, 13));
        C.due("ahead of no free route", 'e', () -> x.bars(2, 8, 15));
        says("'c' the cell does another one by this rest;");
        C.due("ahead of the bank, the order, too few beats", 'c', () -> x.bars(2, 0, 4));
        C.due("ahead of the bank, too many beats", 'c', () -> x.bars(2, 0, 28));
        x.constant(3);
        x.place(3, 3, 3);
        C.due("ahead of the order", 'c', () -> x.bars(2, 3, 11));
        x.lift(3);
        x.place(3, 3, 5);
        C.due("ahead of too few beats", 'c', () -> x.bars(2, 3, 13));
        x.lift(3);
        x.place(3, 3, 7);
        C.due("ahead of no free route", 'c', () -> x.bars(2, 3, 15));
        x.lift(3);
        says("'b' the bank is used;");
        C.due("ahead of the order, too few beats", 'b', () -> x.bars(2, 3, 4));
        C.due("ahead of too many beats", 'b', () -> x.bars(2, 3, 28));
        x.load(1, 0, 0);
        x.place(4, 3, 7);
        C.due("ahead of no free route", 'b', () -> x.bars(2, 0, 15));
        x.lift(4);
        says("'m' the order of loads and stores;");
        C.due("ahead of too few beats", 'm', () -> x.bars(2, 3, 3));
        C.due("ahead of too many beats", 'm', () -> x.bars(2, 3, 30));
        C.due("alone", 'm', () -> x.bars(2, 3, 21));
        Fabricmap y = barred();
        y.lift(0);
        y.place(0, 4, 9);
        C.due("ahead of no free route", 'm', () -> y.bars(2, 3, 10));
        says("'o' some route would have fewer than 0 or more than 8 beats;");
        C.due("too few", 'o', () -> x.bars(2, 3, 13));
        Fabricmap z = new Fabricmap();
        z.interval(8);
        z.constant(1);
        z.constant(2);
        z.two('-', 0, 0, 1, 0);
        z.place(0, 0, 9);
        z.place(1, 4, 0);
        C.due("the second route, ahead of the first one that is not free", 'o', () -> z.bars(2, 8, 10));
        C.due("no route is too long, but the first is not free", 'r', () -> {
            z.lift(1);
            return z.bars(2, 8, 10);
        });
        says("'r' some route is not free, by those laid ahead of it.");
        C.due("too far", 'r', () -> x.bars(2, 3, 15));
        C.due("one beat more", '-', () -> x.bars(2, 3, 16));
        Fabricmap w = Scenes.pair(2, 1, 0, 2);
        w.constant(2);
        w.two('-', 0, 0, 2, 0);
        w.two('-', 2, 0, 2, 0);
        w.place(2, 0, 3);
        C.due("the second route, which the first one alone hinders", 'r', () -> w.bars(3, 1, 5));
        C.due("the second route by itself", '-', () -> w.bars(4, 1, 5));
    }

    private static void barsAlone() {
        Fabricmap x = Scenes.twelve();
        for (int node = 0; node < 12; node++) {
            int n = node;
            C.due("nothing bars node " + n, "--", () -> Scenes.bars(x, n, 0, 0, 31));
        }
        Fabricmap y = Scenes.rich();
        String before = Look.at(Scenes.rich());
        C.due("what bars changes nothing", before, () -> {
            for (int cell = 0; cell < 9; cell++) {
                Scenes.bars(y, 5, cell, 0, 1, 2, 3, 4, 5);
            }
            return Look.at(y);
        });
    }

    private static void map() {
        says("To map places all nodes that are not placed, by their numbers,");
        Fabricmap x = alone(1, 1, 8, 5);
        x.place(2, 0, 1);
        C.due("all", 5, () -> x.map());
        C.due("by their numbers, that which is placed aside", "0 2 1 3 4", () -> x.timeOf(0) + " " + x.timeOf(1) + " "
                + x.timeOf(2) + " " + x.timeOf(3) + " " + x.timeOf(4));
        C.due("none", 0, () -> new Fabricmap().map());
        says("each at the first time, and there at the first cell, at which nothing bars it;");
        Fabricmap y = alone(2, 2, 2, 9);
        C.due("as many as there is room", 8, () -> y.map());
        C.due("cells first", "0 1 2 3 0 1 2 3", () -> cellsOf(y, 8));
        C.due("then times", "0 0 0 0 1 1 1 1", () -> timesOf(y, 8));
        Fabricmap z = Scenes.pair(1, 1, 0, 8);
        z.lift(0);
        z.place(0, 0, 30);
        C.due("the last time", 31, () -> z.map() == 2 ? z.timeOf(1) : -1);
        Fabricmap w = Scenes.pair(3, 1, 0, 8);
        w.constant(1);
        w.place(2, 0, 1);
        C.due("the first time at which a way leads to some cell", 21, () -> w.map() == 3
                ? 10 * w.timeOf(1) + w.cellOf(1) : -1);
        says("it ends at the first node that cannot be placed.");
        Fabricmap v = Scenes.pair(1, 1, 0, 8);
        v.constant(1);
        v.lift(0);
        v.place(0, 0, 31);
        C.due("behind the last time", 1, () -> v.map());
        C.missing("none behind it is placed", () -> v.cellOf(2));
        Fabricmap u = new Fabricmap();
        u.square(2, 1, 2);
        u.kill(0);
        u.constant(1);
        u.load(0, 0, 0);
        u.constant(2);
        C.due("no edge", 1, () -> u.map());
        C.due("the first one is placed", 1, () -> u.cellOf(0));
        C.missing("none behind it is, though it could be", () -> u.cellOf(2));
        u.heal(0);
        C.due("healed", 3, () -> u.map());
        Fabricmap t = alone(1, 1, 1, 12);
        C.due("one cell and one rest", 1, () -> t.map());
    }

    private static String cellsOf(Fabricmap x, int nodes) {
        StringBuilder text = new StringBuilder();
        for (int node = 0; node < nodes; node++) {
            text.append(node == 0 ? "" : " ").append(x.cellOf(node));
        }
        return text.toString();
    }

    private static String timesOf(Fabricmap x, int nodes) {
        StringBuilder text = new StringBuilder();
        for (int node = 0; node < nodes; node++) {
            text.append(node == 0 ? "" : " ").append(x.timeOf(node));
        }
        return text.toString();
    }

    private static void takenAway() {
        says("As a node is taken away, its routes go;");
        Fabricmap x = Scenes.pair(3, 1, 1, 4);
        x.two('*', 1, 0, 1, 0);
        x.place(1, 1, 2);
        x.place(2, 2, 5);
        C.due("those to it and from it", 4, () -> x.lift(1));
        C.due("none are left", 0, () -> x.routes());
        C.missing("from it", () -> x.length(1, 0));
        C.missing("to it", () -> x.length(2, 0));
        C.due("what they took is free", "---- ---- 0000",
                () -> takenByRests(x, 0, 'e', 4) + " " + takenByRests(x, 1, 'e', 4) + " " + heldByRests(x, 1, 4));
        Fabricmap z = Scenes.pair(3, 2, 0, 4);
        z.constant(5);
        z.two('*', 2, 0, 2, 0);
        z.place(1, 1, 2);
        z.lift(1);
        z.place(2, 3, 3);
        z.place(3, 2, 7);
        C.due("another number may go along its wire", "nee", () -> Scenes.route(z, 3, 0));
        C.due("by that rest", true, () -> z.isTaken(0, 'e', 1));
        C.due("which is then free for it no more", 'r', () -> z.bars(1, 1, 2));
        C.due("till that one goes, too", '-', () -> {
            z.lift(3);
            return z.bars(1, 1, 2);
        });
        says("others stay as they are, and other nodes where they are, till it is placed again.");
        C.due("its operand's and its user's places", "02 05",
                () -> "" + x.cellOf(0) + x.cellOf(2) + " " + x.timeOf(0) + x.timeOf(2));
        C.due("placed again", 4, () -> x.place(1, 1, 3));
        C.due("routes anew", ".e,.e e,e", () -> fourRoutes(x, 1, 2));
        Fabricmap y = new Fabricmap();
        y.square(2, 2, 0);
        y.interval(1);
        y.constant(1);
        y.constant(2);
        y.two('+', 0, 0, 0, 0);
        y.two('+', 1, 0, 1, 0);
        y.place(0, 0, 0);
        y.place(2, 3, 3);
        y.place(1, 2, 0);
        y.place(3, 1, 3);
        y.lift(2);
        C.due("another route stays, though a better one is free now", "en", () -> Scenes.route(y, 3, 0));
        y.lift(3);
        y.place(3, 1, 3);
        C.due("till it is placed again", "ne", () -> Scenes.route(y, 3, 0));
    }

    private static void dies() {
        says("As a cell dies, the nodes that are placed there go,");
        Fabricmap x = alone(2, 1, 4, 6);
        x.place(0, 0, 0);
        x.place(1, 0, 1);
        x.place(2, 0, 31);
        x.place(3, 1, 0);
        C.due("three of four", 3, () -> x.kill(0));
        C.missing("the last of them", () -> x.cellOf(2));
        C.due("one stays", 1, () -> x.cellOf(3));
        C.due("none are there", 0, () -> {
            x.lift(3);
            return x.kill(1);
        });
        says("and those whose routes from their operands go through it,");
        Fabricmap y = Scenes.pair(3, 3, 2, 8);
        y.two('-', 1, 0, 1, 0);
        y.place(1, 8, 5);
        y.place(2, 7, 8);
        C.due("the way", "eess", () -> Scenes.route(y, 1, 0));
        C.due("the corner of the way", 1, () -> y.kill(2));
        C.due("the operand and the user's user stay", "0 7", () -> y.cellOf(0) + " " + y.cellOf(2));
        C.missing("the user goes", () -> y.cellOf(1));
        C.due("with all its routes", 0, () -> y.routes());
        Fabricmap v = Scenes.pair(3, 3, 2, 8);
        v.place(1, 8, 5);
        C.due("cells aside of the way", 0, () -> v.kill(4) + v.kill(3) + v.kill(7));
        C.due("the way is as it was", "eess", () -> Scenes.route(v, 1, 0));
        says("or begin there;");
        Fabricmap z = Scenes.pair(2, 1, 2, 8);
        z.two('-', 1, 0, 1, 0);
        z.two('-', 0, 0, 0, 0);
        z.place(1, 1, 2);
        z.place(2, 1, 4);
        z.place(3, 1, 5);
        C.due("the operand and both its users", 3, () -> z.kill(0));
        C.due("but not the user of one of them", 1, () -> z.cellOf(2));
        C.due("without its routes", 0, () -> z.routes());
        Fabricmap w = Scenes.pair(1, 1, 2, 8);
        w.place(1, 0, 1);
        C.due("a route of no beats", 2, () -> w.kill(0));
    }

    private static void isCut() {
        says("as a wire is cut, those whose routes from their operands go along it.");
        Fabricmap x = Scenes.pair(3, 1, 2, 8);
        x.two('-', 0, 0, 0, 0);
        x.two('-', 1, 0, 1, 0);
        x.place(1, 1, 2);
        x.place(2, 2, 5);
        x.place(3, 1, 4);
        C.due("wires back", 0, () -> x.cut(1, 'w') + x.cut(2, 'w'));
        C.due("the second wire: one goes", 1, () -> x.cut(1, 'e'));
        C.missing("which", () -> x.cellOf(2));
        C.due("the first wire: the other one", 1, () -> x.cut(0, 'e'));
        C.missing("that", () -> x.cellOf(1));
        C.due("the operand and the user's user stay", "0 1", () -> x.cellOf(0) + " " + x.cellOf(3));
        C.due("no routes", 0, () -> x.routes());
        Fabricmap y = Scenes.pair(2, 2, 2, 8);
        y.place(1, 3, 3);
        C.due("wires of the same cells that it does not go along", 0,
                () -> y.cut(0, 's') + y.cut(2, 'e') + y.cut(3, 'n') + y.cut(1, 'w'));
        C.due("the last wire of its way", 1, () -> y.cut(1, 's'));
        Fabricmap z = Scenes.pair(2, 1, 2, 8);
        z.place(1, 0, 1);
        C.due("a route of no beats", 0, () -> z.cut(0, 'e'));
        C.due("is there still", 2, () -> z.routes());
        Fabricmap w = Scenes.summing(2);
        w.square(2, 1, 0);
        w.interval(2);
        C.due("no way to itself of three beats without a register", 'r', () -> w.bars(1, 0, 0));
        w.square(2, 1, 1);
        w.place(1, 0, 0);
        C.due("its way to itself", ".ew", () -> Scenes.route(w, 1, 1));
        C.due("goes with it", 1, () -> w.cut(1, 'w'));
    }

    private static void least() {
        says("The least interval that can be told ahead is the greatest of these:");
        Fabricmap x = new Fabricmap();
        x.load(0, 0, 0);
        x.load(1, 0, 0);
        x.load(2, 0, 0);
        C.due("the loads", 3, () -> x.least());
        x.two('+', 0, 0, 0, 0);
        for (int node = 4; node < 8; node++) {
            x.two('+', node - 1, 0, 0, 0);
        }
        C.due("the loads still, there being nodes for the nine cells", 3, () -> x.least());
        x.feed(3, 0, 7, 1);
        C.due("the ring of five", 5, () -> x.least());
        x.square(1, 1, 2);
        C.due("eight nodes on a cell", 8, () -> x.least());
        says("the nodes divided by the cells that are not dead, rounded up;");
        Fabricmap y = Scenes.twelve();
        int[] due = {2, 2, 2, 2, 3, 3, 4, 6, 12};
        for (int dead = 0; dead < 9; dead++) {
            int d = dead;
            C.due("12 on " + (9 - dead), due[dead], () -> y.least());
            y.kill(d);
        }
        C.unsupported("12 on none", () -> y.least());
        y.square(4, 4, 0);
        C.due("12 on 16", 1, () -> y.least());
        y.square(4, 3, 0);
        C.due("12 on 12", 1, () -> y.least());
        y.kill(0);
        C.due("12 on 11", 2, () -> y.least());
        says("the loads and stores of each bank;");
        Fabricmap z = new Fabricmap();
        z.bank(1, 1);
        for (int node = 0; node < 7; node++) {
            z.load(0, 0, 0);
        }
        z.load(1, 0, 0);
        C.due("seven of one, one of the other", 7, () -> z.least());
        z.store(1, 0, 0, 0, 0);
        z.store(2, 0, 0, 0, 0);
        C.due("stores, too: eight and two", 8, () -> z.least());
        z.bank(0, 1);
        C.due("one and nine", 9, () -> z.least());
        z.load(3, 0, 0);
        z.load(0, 0, 0);
        C.due("two and ten", 10, () -> z.least());
        z.bank(1, 0);
        z.bank(0, 0);
        C.due("twelve of one bank", 12, () -> z.least());
    }

    /** The least interval of a ring of some sums, whose distances are one of 1 and those that are told. */
    private static int ring(int nodes, int... distances) {
        Fabricmap x = new Fabricmap();
        x.square(4, 4, 0);
        x.round();
        for (int node = 1; node <= nodes; node++) {
            x.two('+', node - 1, 0, 0, 0);
        }
        for (int i = 0; i < distances.length; i++) {
            int node = i + 1;
            x.feed(node, 0, node == 1 ? nodes : node - 1, distances[i]);
        }
        return x.least();
    }

    private static void leastByRings() {
        says("and the least one with which no ring of operands has more nodes than its distances together times the"
                + " interval;");
        C.due("one node by 1", 1, () -> ring(1, 1));
        C.due("two by 1", 2, () -> ring(2, 1));
        C.due("two by 2", 1, () -> ring(2, 2));
        C.due("three by 2", 2, () -> ring(3, 2));
        C.due("three by 3", 1, () -> ring(3, 3));
        C.due("four by 3", 2, () -> ring(4, 3));
        C.due("six by 3", 2, () -> ring(6, 3));
        C.due("seven by 3", 3, () -> ring(7, 3));
        C.due("seven by 3 and 3", 2, () -> ring(7, 3, 3));
        C.due("six by 3 and 3", 1, () -> ring(6, 3, 3));
        C.due("eleven by 1", 11, () -> ring(11, 1));
        C.due("eleven by 2", 6, () -> ring(11, 2));
        C.due("eleven by 1 and 1 and 1", 4, () -> ring(11, 1, 1, 1));
        Fabricmap x = new Fabricmap();
        x.constant(1);
        x.choice(0, 0, 0);
        x.choice(0, 0, 1);
        x.choice(0, 2, 0);
        C.due("no ring", 1, () -> x.least());
        x.feed(1, 2, 3, 1);
        C.due("a ring by third and second operands", 3, () -> x.least());
        x.feed(1, 1, 3, 2);
        C.due("the shorter one counts", 3, () -> x.least());
        x.feed(1, 2, 1, 3);
        C.due("the longer one alone", 2, () -> x.least());
        says("1 at least.");
        Fabricmap y = alone(4, 4, 8, 1);
        C.due("one node", 1, () -> y.least());
        C.due("one node to itself by 3", 1, () -> ring(1, 3));
    }

    private static void runs() {
        says("Runs. To run 1 to 16 rounds, all nodes being placed, does all beats one by one, the loads of a beat ahead of"
                + " its stores.");
        Fabricmap x = new Fabricmap();
        x.round();
        x.store(0, 1, 0, 0, 0);
        x.map();
        C.refused("0 rounds", ARGUMENT, Scenes::twelve, y -> y.run(0));
        C.refused("17 rounds", ARGUMENT, Scenes::twelve, y -> y.run(17));
        x.run(1);
        C.due("one round", "0 0", () -> x.get(0, 0) + " " + x.get(0, 1));
        x.run(16);
        C.due("sixteen rounds", "1 15", () -> x.get(0, 1) + " " + x.get(0, 15));
        Fabricmap w = new Fabricmap();
        w.round();
        w.store(0, 1, 0, 0, 0);
        w.constant(1);
        w.first(0, 60);
        w.place(0, 0, 0);
        w.place(1, 0, 1);
        w.place(2, 1, 31);
        for (int place = 0; place < 16; place++) {
            w.set(0, place, 99);
        }
        C.due("as many beats as the last node needs", 34, () -> w.run(2));
        C.due("but no further round of those done early", "0 1 99 99",
                () -> w.get(0, 0) + " " + w.get(0, 1) + " " + w.get(0, 2) + " " + w.get(0, 15));
        C.refused("not all nodes being placed", UNSUPPORTED, Scenes::rich, y -> y.run(1));
        Fabricmap z = onePlace();
        z.set(0, 5, 9);
        z.two('+', 1, 0, 5, 0);
        z.store(2, 1, 0, 7, 0);
        z.interval(8);
        C.due("loads and stores of one place", 9, () -> z.map());
        C.due("what each round would load, ahead of its stores and behind them", "10 2 2",
                () -> z.would(3, 2, 0) + " " + z.would(3, 2, 1) + " " + z.would(3, 2, 2));
        z.run(3);
        C.due("what it has loaded", "10 2 2", () -> z.get(2, 0) + " " + z.get(2, 1) + " " + z.get(2, 2));
        C.due("a load and a store of one array are never at one beat", 'b', () -> {
            z.lift(3);
            return z.bars(3, 6, z.timeOf(1));
        });
    }

    private static void energy() {
        says("It takes energy, for each round: 1 for each node,");
        Fabricmap x = Scenes.twelve();
        x.map();
        x.run(1);
        C.due("twelve nodes, one round", 12L, () -> x.energy());
        x.run(16);
        C.due("twelve nodes, sixteen rounds more", 204L, () -> x.energy());
        C.unsupported("none by a call that is refused", () -> {
            x.lift(0);
            return x.run(1);
        });
        C.due("nothing more", 204L, () -> x.energy());
        says("and 1 for each beat of each wire along which some number of a node goes,");
        Fabricmap y = Scenes.pair(3, 1, 2, 8);
        y.place(1, 2, 5);
        y.run(1);
        C.due("two wires, shared, and no stay", 4L, () -> y.energy());
        Fabricmap z = Scenes.pair(2, 1, 0, 8);
        z.place(1, 1, 4);
        z.run(2);
        C.due("two beats of one wire, and one of another", 10L, () -> z.energy());
        Fabricmap w = Scenes.pair(3, 1, 2, 8);
        w.two('-', 0, 0, 0, 0);
        w.place(1, 1, 2);
        w.place(2, 2, 3);
        w.run(1);
        C.due("one wire for two users, and one for one of them", 5L, () -> w.energy());
        Fabricmap u = Scenes.pair(1, 1, 2, 8);
        u.place(1, 0, 7);
        u.run(3);
        C.due("no wires", 6L, () -> u.energy());
        says("whether a round that is done has it as an operand or not.");
        Fabricmap v = new Fabricmap();
        v.round();
        v.two('+', 0, 3, 0, 3);
        v.place(0, 0, 4);
        v.place(1, 1, 0);
        v.run(1);
        C.due("a number for a round that is not done", 3L, () -> v.energy());
        v.run(3);
        C.due("three such numbers", 12L, () -> v.energy());
    }

    private static void exceptions() {
        says("Exceptions. A method that throws an exception changes nothing.");
        C.refused("no such node", INDEX, Scenes::rich, x -> x.lift(6));
        C.refused("no such time", ARGUMENT, Scenes::rich, x -> x.place(4, 0, 32));
        C.refused("something bars it, its first route being free", UNSUPPORTED, PlacingTermsTest::hindered,
                x -> x.place(3, 1, 5));
        C.refused("no room", STATE, Scenes::twelve, x -> x.two('+', 0, 0, 0, 0));
        C.refused("no routes", "ArithmeticException", Scenes::twelve, x -> x.meanLength());
        C.refused("no such beat", "NoSuchElementException", Scenes::rich, x -> x.step(2, 0, 2));
        says("If several conditions of a method apply, the exception that is listed first is thrown.");
        C.refused("no such node, no such number, no room", INDEX, Scenes::twelve, x -> x.store(4, 4, 16, 12, 4));
        C.refused("no such number, no room", ARGUMENT, Scenes::twelve, x -> x.store(4, 4, 16, 11, 4));
        C.refused("no such operand, no such distance, placed", INDEX, Scenes::rich, x -> x.feed(2, 2, 9, 9));
        C.refused("no such distance, placed", ARGUMENT, Scenes::rich, x -> x.feed(2, 1, 5, 9));
        C.refused("no such node, no such time", INDEX, Scenes::rich, x -> x.place(6, 9, 32));
        C.refused("no such time, placed", ARGUMENT, Scenes::rich, x -> x.place(2, 8, 32));
        C.refused("no such rounds, not all placed", ARGUMENT, Scenes::rich, x -> x.run(0));
        C.refused("no such cell, no such way, no such rest", INDEX, Scenes::rich, x -> x.isTaken(9, 'q', 9));
        C.refused("no such operand, no such route", INDEX, Scenes::rich, x -> x.step(5, 2, 9));
    }

    /** A sum (3) whose first route is free at cell 1, and whose second one is not, then. */
    private static Fabricmap hindered() {
        Fabricmap x = Scenes.pair(2, 1, 0, 2);
        x.constant(2);
        x.two('-', 0, 0, 2, 0);
        x.place(2, 0, 3);
        return x;
    }

    private static void examples() {
        says("Examples: each one begins with a new object; behind each call and = stands its result.");
        Fabricmap x = new Fabricmap();
        C.due("a new object", 0, () -> x.nodes());
        says("- set(0, 0, 5) = 0; load(0, 1, 0) = 0; constant(3) = 1; two('+', 0, 0, 1, 0) = 2; store(1, 1, 0, 2, 0) = 3;"
                + " map() = 4; run(1) = 6; get(1, 0) = 8.");
        C.due("set", 0, () -> x.set(0, 0, 5));
        C.due("load", 0, () -> x.load(0, 1, 0));
        C.due("constant", 1, () -> x.constant(3));
        C.due("two", 2, () -> x.two('+', 0, 0, 1, 0));
        C.due("store", 3, () -> x.store(1, 1, 0, 2, 0));
        C.due("map", 4, () -> x.map());
        C.due("run", 6, () -> x.run(1));
        C.due("get", 8, () -> x.get(1, 0));
        says("- load(0, 1, 0) = 0; bars(0, 1, 0) = 'e'; place(0, 3, 1) = 0; at(3, 1) = 0; bars(0, 0, 0) = 'p'.");
        Fabricmap y = new Fabricmap();
        C.due("load", 0, () -> y.load(0, 1, 0));
        C.due("bars", 'e', () -> y.bars(0, 1, 0));
        C.due("place", 0, () -> y.place(0, 3, 1));
        C.due("at", 0, () -> y.at(3, 1));
        C.due("bars", 'p', () -> y.bars(0, 0, 0));
        says("- round() = 0; two('+', 0, 0, 0, 0) = 1; feed(1, 1, 1, 1) = 0; least() = 1; number(1, 3) = 6.");
        Fabricmap z = new Fabricmap();
        C.due("round", 0, () -> z.round());
        C.due("two", 1, () -> z.two('+', 0, 0, 0, 0));
        C.due("feed", 0, () -> z.feed(1, 1, 1, 1));
        C.due("least", 1, () -> z.least());
        C.due("number", 6, () -> z.number(1, 3));
    }
}
