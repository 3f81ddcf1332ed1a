/** For each promise of the document: ordinary calls, the edges that it names, and wrong ones. */
public final class PromiseTest {
    private static final int LOW = Integer.MIN_VALUE;
    private static final int HIGH = Integer.MAX_VALUE;
    private static final Check C = new Check();

    public static void main(String[] args) {
        examples();
        newObject();
        square();
        interval();
        kill();
        heal();
        cut();
        mend();
        bank();
        setAndGet();
        load();
        store();
        constantAndRound();
        two();
        choice();
        feed();
        first();
        clearAndNodes();
        barsInItsOrder();
        barsByOrderOfMemory();
        barsByRoundsFrom0To15();
        barsByRoutes();
        placeAndRoutes();
        sharedNumbers();
        numbersInEachOthersWay();
        lift();
        map();
        cellOfAndTimeOf();
        at();
        lengthAndStep();
        heldAndTaken();
        least();
        run();
        energy();
        wouldAndNumber();
        checksum();
        shareAndMean();
        isSound();
        manyCalls();
        C.end("PromiseTest");
    }

    /** A round (0) and a sum (1) of it and of itself a round ahead. */
    private static Fabricmap summing() {
        Fabricmap x = new Fabricmap();
        x.round();
        x.two('+', 0, 0, 0, 0);
        x.feed(1, 1, 1, 1);
        return x;
    }

    /** A round (0) done at a cell at the beat 0, and as its operand a sum (1) with it and itself. */
    private static Fabricmap pair(int wide, int high, int registers, int interval) {
        Fabricmap x = new Fabricmap();
        x.square(wide, high, registers);
        x.interval(interval);
        x.round();
        x.two('+', 0, 0, 0, 0);
        x.place(0, 0, 0);
        return x;
    }

    private static Fabricmap full() {
        Fabricmap x = new Fabricmap();
        for (int i = 0; i < 12; i++) {
            x.constant(i);
        }
        return x;
    }

    private static String route(Fabricmap x, int node, int operand) {
        StringBuilder text = new StringBuilder();
        for (int beat = 0; beat < x.length(node, operand); beat++) {
            text.append(x.step(node, operand, beat));
        }
        return text.toString();
    }

    private static void examples() {
        Fabricmap x = new Fabricmap();
        C.due("example 1 set", 0, () -> x.set(0, 0, 5));
        C.due("example 1 load", 0, () -> x.load(0, 1, 0));
        C.due("example 1 constant", 1, () -> x.constant(3));
        C.due("example 1 two", 2, () -> x.two('+', 0, 0, 1, 0));
        C.due("example 1 store", 3, () -> x.store(1, 1, 0, 2, 0));
        C.due("example 1 map", 4, () -> x.map());
        C.due("example 1 run", 6, () -> x.run(1));
        C.due("example 1 get", 8, () -> x.get(1, 0));
        Fabricmap y = new Fabricmap();
        C.due("example 2 load", 0, () -> y.load(0, 1, 0));
        C.due("example 2 bars", 'e', () -> y.bars(0, 1, 0));
        C.due("example 2 place", 0, () -> y.place(0, 3, 1));
        C.due("example 2 at", 0, () -> y.at(3, 1));
        C.due("example 2 bars again", 'p', () -> y.bars(0, 0, 0));
        Fabricmap z = new Fabricmap();
        C.due("example 3 round", 0, () -> z.round());
        C.due("example 3 two", 1, () -> z.two('+', 0, 0, 0, 0));
        C.due("example 3 feed", 0, () -> z.feed(1, 1, 1, 1));
        C.due("example 3 least", 1, () -> z.least());
        C.due("example 3 number", 6, () -> z.number(1, 3));
    }

    private static void newObject() {
        Fabricmap x = new Fabricmap();
        C.due("nodes at first", 0, () -> x.nodes());
        C.due("routes at first", 0, () -> x.routes());
        C.due("energy at first", 0L, () -> x.energy());
        C.due("the ninth cell at first", -1, () -> x.at(8, 1));
        C.index("a tenth cell at first", () -> x.at(9, 0));
        C.argument("a third rest at first", () -> x.at(0, 2));
        C.due("number at first", 0, () -> x.get(3, 15));
        C.due("bank at first", 0, () -> x.bank(3, 0));
        C.due("a wire at first", false, () -> x.isTaken(2, 'w', 1));
        C.argument("no wire at first", () -> x.isTaken(2, 'e', 1));
        x.constant(1);
        x.two('+', 0, 0, 0, 0);
        x.place(0, 0, 0);
        C.due("2 registers at first", 0, () -> x.held(0, 1));
        C.due("bars far off", '-', () -> x.bars(1, 0, 3));
    }

    private static void square() {
        Fabricmap x = new Fabricmap();
        int[][] wrong = {{0, 1, 0}, {5, 1, 0}, {1, 0, 0}, {1, 5, 0}, {1, 1, -1}, {1, 1, 5},
            {LOW, 1, 1}, {HIGH, 1, 1}, {1, LOW, 1}, {1, HIGH, 1}, {1, 1, LOW}, {1, 1, HIGH}};
        x.constant(1);
        x.place(0, 8, 0);
        for (int[] w : wrong) {
            C.argument("square " + w[0] + " " + w[1] + " " + w[2], () -> x.square(w[0], w[1], w[2]));
        }
        C.due("nothing changed by wrong squares", 8, () -> x.cellOf(0));
        x.kill(2);
        x.cut(0, 'e');
        C.due("square tells placed nodes", 1, () -> x.square(4, 4, 0));
        C.missing("no node is placed behind square", () -> x.cellOf(0));
        C.due("nodes stay behind square", 1, () -> x.nodes());
        C.due("cells are whole behind square", false, () -> x.heal(2));
        C.due("wires are whole behind square", false, () -> x.mend(0, 'e'));
        C.due("the sixteenth cell", -1, () -> x.at(15, 0));
        C.due("square with none placed", 0, () -> x.square(1, 1, 4));
        C.index("one cell only", () -> x.at(1, 0));
        Fabricmap y = pair(1, 1, 0, 2);
        C.due("no register to stay in", 'r', () -> y.bars(1, 0, 3));
        y.square(2, 1, 0);
        y.place(0, 0, 0);
        C.due("there and back without registers", '-', () -> y.bars(1, 0, 3));
    }

    private static void interval() {
        Fabricmap x = new Fabricmap();
        x.constant(1);
        x.place(0, 0, 5);
        for (int wrong : new int[] {0, 9, -1, LOW, HIGH}) {
            C.argument("interval " + wrong, () -> x.interval(wrong));
        }
        C.due("still placed", 0, () -> x.at(0, 1));
        C.due("interval tells placed nodes", 1, () -> x.interval(2));
        C.missing("none placed behind interval", () -> x.timeOf(0));
        C.due("interval 8", 0, () -> x.interval(8));
        x.place(0, 0, 13);
        C.due("rest 5 of 8", 0, () -> x.at(0, 5));
        C.due("rest 7 of 8", -1, () -> x.at(0, 7));
        C.due("interval 1", 1, () -> x.interval(1));
        C.argument("rest 1 of 1", () -> x.at(0, 1));
    }

    private static void kill() {
        Fabricmap x = pair(3, 1, 1, 2);
        x.place(1, 2, 3);
        C.due("route through the middle", "ee", () -> route(x, 1, 0));
        C.index("kill -1", () -> x.kill(-1));
        C.index("kill 3", () -> x.kill(3));
        C.due("kill the middle", 1, () -> x.kill(1));
        C.due("its node stays", 0, () -> x.cellOf(0));
        C.missing("the user goes", () -> x.cellOf(1));
        C.due("its routes go", 0, () -> x.routes());
        C.due("its wires are free", false, () -> x.isTaken(0, 'e', 1));
        C.unsupported("kill it again", () -> x.kill(1));
        C.index("no such cell is first", () -> x.kill(16));
        C.due("dead bars", 'd', () -> x.bars(1, 1, 3));
        C.due("no way round", 'r', () -> x.bars(1, 2, 3));
        Fabricmap y = pair(3, 1, 1, 2);
        y.place(1, 2, 3);
        C.due("kill where the route begins", 2, () -> y.kill(0));
        C.due("nothing placed", 0L, () -> (long) (y.share() * 100));
        Fabricmap z = summing();
        z.two('+', 1, 0, 0, 0);
        z.place(0, 0, 0);
        z.place(1, 1, 2);
        z.place(2, 4, 5);
        C.due("routes of three nodes", 4, () -> z.routes());
        C.due("kill takes the operand's users, not theirs", 2, () -> z.kill(1));
        C.due("the round stays", 0, () -> z.timeOf(0));
        C.missing("the sum goes", () -> z.timeOf(1));
        C.missing("the user of the sum goes", () -> z.timeOf(2));
        Fabricmap w = pair(3, 3, 2, 2);
        w.two('-', 1, 0, 1, 0);
        w.place(1, 2, 3);
        w.place(2, 8, 6);
        C.due("kill takes one, whose user stays", 1, () -> w.kill(1));
        C.due("the user's user stays", 8, () -> w.cellOf(2));
        C.due("without routes", 0, () -> w.routes());
    }

    private static void heal() {
        Fabricmap x = new Fabricmap();
        C.index("heal -1", () -> x.heal(-1));
        C.index("heal 9", () -> x.heal(9));
        C.due("heal a whole one", false, () -> x.heal(4));
        x.kill(4);
        x.cut(4, 'n');
        x.constant(1);
        C.due("dead", 'd', () -> x.bars(0, 4, 0));
        C.due("heal a dead one", true, () -> x.heal(4));
        C.due("whole", '-', () -> x.bars(0, 4, 0));
        C.due("heal again", false, () -> x.heal(4));
        C.due("its wire is cut still", true, () -> x.mend(4, 'n'));
        Fabricmap y = pair(2, 1, 0, 2);
        y.kill(1);
        y.heal(1);
        C.due("routes lead to it again", '-', () -> y.bars(1, 1, 2));
    }

    private static void cut() {
        Fabricmap x = pair(2, 2, 1, 2);
        x.place(1, 3, 3);
        C.due("route right and down", "es", () -> route(x, 1, 0));
        C.index("cut -1 first", () -> x.cut(-1, 'q'));
        C.index("cut 4", () -> x.cut(4, 'n'));
        C.argument("cut q", () -> x.cut(0, 'q'));
        C.argument("cut .", () -> x.cut(0, '.'));
        C.argument("cut N", () -> x.cut(0, 'N'));
        C.argument("no wire up", () -> x.cut(0, 'n'));
        C.argument("no wire left", () -> x.cut(2, 'w'));
        C.argument("no wire right", () -> x.cut(1, 'e'));
        C.argument("no wire down", () -> x.cut(3, 's'));
        C.due("cut a wire the other way", 0, () -> x.cut(1, 'w'));
        C.due("cut a wire of the route", 1, () -> x.cut(1, 's'));
        C.missing("the user goes", () -> x.timeOf(1));
        C.due("the operand stays", 0, () -> x.timeOf(0));
        C.unsupported("cut it again", () -> x.cut(1, 's'));
        x.place(1, 3, 3);
        C.due("round about", "se", () -> route(x, 1, 1));
        C.due("cut that too", 1, () -> x.cut(0, 's'));
        C.due("no way left", 'r', () -> x.bars(1, 3, 3));
        Fabricmap y = pair(3, 1, 2, 4);
        y.two('*', 0, 0, 0, 0);
        y.place(1, 2, 3);
        y.place(2, 1, 2);
        C.due("cut what two share", 2, () -> y.cut(0, 'e'));
        C.due("neither is placed", -1, () -> Math.max(y.at(2, 3), y.at(1, 2)));
    }

    private static void mend() {
        Fabricmap x = new Fabricmap();
        C.index("mend 9 first", () -> x.mend(9, 'q'));
        C.argument("mend q", () -> x.mend(0, 'q'));
        C.argument("mend none", () -> x.mend(0, 'w'));
        C.due("mend a whole one", false, () -> x.mend(0, 'e'));
        x.cut(0, 'e');
        C.due("the other way is whole", false, () -> x.mend(1, 'w'));
        C.due("mend a cut one", true, () -> x.mend(0, 'e'));
        C.due("mend again", false, () -> x.mend(0, 'e'));
        x.kill(0);
        C.due("a wire of a dead cell can be cut", 0, () -> x.cut(0, 'e'));
        Fabricmap y = pair(2, 1, 0, 2);
        y.cut(0, 'e');
        C.due("no way along the cut", 'r', () -> y.bars(1, 1, 2));
        y.mend(0, 'e');
        C.due("the way is free again", '-', () -> y.bars(1, 1, 2));
    }

    private static void bank() {
        Fabricmap x = new Fabricmap();
        int[][] wrong = {{-1, 0}, {4, 0}, {0, -1}, {0, 2}, {LOW, 0}, {HIGH, 0}, {0, LOW}, {0, HIGH}};
        for (int[] w : wrong) {
            C.argument("bank " + w[0] + " " + w[1], () -> x.bank(w[0], w[1]));
        }
        C.due("bank before", 0, () -> x.bank(2, 1));
        C.due("bank behind", 1, () -> x.bank(2, 1));
        x.load(2, 0, 0);
        x.load(1, 0, 0);
        C.due("a load not placed", 1, () -> x.bank(2, 0));
        x.place(0, 0, 0);
        C.unsupported("a load placed", () -> x.bank(2, 0));
        C.argument("no such bank is first", () -> x.bank(2, 2));
        C.due("another array", 0, () -> x.bank(1, 1));
        x.store(3, 0, 0, 0, 0);
        x.place(2, 3, 3);
        C.unsupported("a store placed", () -> x.bank(3, 1));
        x.lift(2);
        C.due("lifted", 0, () -> x.bank(3, 1));
    }

    private static void setAndGet() {
        Fabricmap x = new Fabricmap();
        C.due("set", 0, () -> x.set(3, 15, LOW));
        C.due("set again", LOW, () -> x.set(3, 15, HIGH));
        C.due("get", HIGH, () -> x.get(3, 15));
        C.due("get beside", 0, () -> x.get(3, 14));
        C.due("get in another", 0, () -> x.get(2, 15));
        int[][] wrong = {{-1, 0}, {4, 0}, {0, -1}, {0, 16}, {LOW, 0}, {HIGH, 0}, {0, LOW}, {0, HIGH}};
        for (int[] w : wrong) {
            C.argument("set " + w[0] + " " + w[1], () -> x.set(w[0], w[1], 7));
            C.argument("get " + w[0] + " " + w[1], () -> x.get(w[0], w[1]));
        }
    }

    private static void load() {
        Fabricmap x = new Fabricmap();
        int[][] wrong = {{-1, 0, 0}, {4, 0, 0}, {0, -4, 0}, {0, 4, 0}, {0, 0, -1}, {0, 0, 16},
            {LOW, 0, 0}, {HIGH, 0, 0}, {0, LOW, 0}, {0, HIGH, 0}, {0, 0, LOW}, {0, 0, HIGH}};
        for (int[] w : wrong) {
            C.argument("load " + w[0] + " " + w[1] + " " + w[2], () -> x.load(w[0], w[1], w[2]));
        }
        C.due("none added", 0, () -> x.nodes());
        C.due("load", 0, () -> x.load(3, -3, 15));
        C.due("load again", 1, () -> x.load(0, 3, 0));
        x.set(3, 12, 44);
        x.set(3, 2, 45);
        x.set(0, 13, 46);
        C.due("stride -3", 44, () -> x.number(0, 1));
        C.due("stride -3 round the end", 45, () -> x.number(0, 15));
        C.due("stride 3 round the end", 46, () -> x.number(1, 15));
        Fabricmap y = full();
        C.argument("a wrong one is first", () -> y.load(0, 4, 0));
        C.state("a thirteenth", () -> y.load(0, 3, 0));
        C.due("twelve", 12, () -> y.nodes());
    }

    private static void store() {
        Fabricmap x = new Fabricmap();
        C.index("store of nothing", () -> x.store(0, 0, 0, 0, 0));
        C.index("store of itself to be", () -> x.store(0, 0, 0, 0, 1));
        x.round();
        C.index("no node is first", () -> x.store(9, 9, 99, 1, 9));
        C.index("store of -1", () -> x.store(0, 0, 0, -1, 0));
        int[][] wrong = {{-1, 0, 0, 0}, {4, 0, 0, 0}, {0, -4, 0, 0}, {0, 4, 0, 0}, {0, 0, -1, 0},
            {0, 0, 16, 0}, {0, 0, 0, -1}, {0, 0, 0, 4}, {0, 0, 0, LOW}, {0, 0, 0, HIGH}};
        for (int[] w : wrong) {
            C.argument("store of " + w[0] + w[1] + w[2] + w[3], () -> x.store(w[0], w[1], w[2], 0, w[3]));
        }
        C.due("none added", 1, () -> x.nodes());
        C.due("store", 1, () -> x.store(2, -1, 1, 0, 3));
        x.first(0, 70);
        C.due("its own number, of no round", 70, () -> x.number(1, 2));
        C.due("its own number", 12, () -> x.number(1, 15));
        C.due("what it stores", 70, () -> x.would(3, 2, 15));
        C.due("what it stores last", 12, () -> x.would(16, 2, 2));
        Fabricmap y = full();
        C.argument("a wrong one is first", () -> y.store(0, 0, 0, 0, 4));
        C.state("a thirteenth", () -> y.store(0, 0, 0, 0, 0));
    }

    private static void constantAndRound() {
        Fabricmap x = new Fabricmap();
        C.due("constant", 0, () -> x.constant(LOW));
        C.due("round", 1, () -> x.round());
        C.due("number of the constant", LOW, () -> x.number(0, 7));
        C.due("round 0", 0, () -> x.number(1, 0));
        C.due("round 15", 15, () -> x.number(1, 15));
        Fabricmap y = full();
        C.state("a thirteenth constant", () -> y.constant(1));
        C.state("a thirteenth round", () -> y.round());
        C.due("twelve", 12, () -> y.nodes());
        C.due("the twelfth", 11, () -> y.number(11, 0));
    }

    private static int combined(char kind, int one, int other) {
        Fabricmap x = new Fabricmap();
        x.constant(one);
        x.constant(other);
        x.two(kind, 0, 0, 1, 0);
        return x.number(2, 0);
    }

    private static void two() {
        C.due("+", LOW, () -> combined('+', HIGH, 1));
        C.due("-", HIGH, () -> combined('-', LOW, 1));
        C.due("- the other way", 3, () -> combined('-', 5, 2));
        C.due("*", -727379968, () -> combined('*', 1000000, 1000000));
        C.due("m", -3, () -> combined('m', 2, -3));
        C.due("m the other way", LOW, () -> combined('m', LOW, HIGH));
        C.due("<", 1, () -> combined('<', LOW, HIGH));
        C.due("< of alike", 0, () -> combined('<', 4, 4));
        C.due("< of more", 0, () -> combined('<', 5, 4));
        Fabricmap x = new Fabricmap();
        x.round();
        C.index("no one", () -> x.two('q', 1, 9, 0, 9));
        C.index("no other", () -> x.two('q', 0, 9, -1, 9));
        for (char kind : new char[] {'q', '?', 'l', 's', 'k', 'i', '/', 0, 0xFFFF}) {
            C.argument("kind " + (int) kind, () -> x.two(kind, 0, 0, 0, 0));
        }
        for (int wrong : new int[] {-1, 4, LOW, HIGH}) {
            C.argument("distance " + wrong, () -> x.two('+', 0, wrong, 0, 0));
            C.argument("far " + wrong, () -> x.two('+', 0, 0, 0, wrong));
        }
        C.due("two", 1, () -> x.two('-', 0, 3, 0, 1));
        x.first(0, 100);
        C.due("both of no round", 0, () -> x.number(1, 0));
        C.due("one of no round", 100, () -> x.number(1, 1));
        C.due("both of rounds", -2, () -> x.number(1, 9));
        Fabricmap y = full();
        C.argument("a wrong one is first", () -> y.two('q', 0, 0, 0, 0));
        C.state("a thirteenth", () -> y.two('+', 0, 0, 0, 0));
    }

    private static void choice() {
        Fabricmap x = new Fabricmap();
        C.index("no test", () -> x.choice(0, 0, 0));
        x.constant(-1);
        x.round();
        C.index("no test alone", () -> x.choice(2, 0, 1));
        C.index("test -1", () -> x.choice(-1, 0, 1));
        C.index("no one", () -> x.choice(0, 2, 0));
        C.index("no other", () -> x.choice(0, 0, -1));
        C.due("choice", 2, () -> x.choice(1, 0, 1));
        C.due("0 is not above 0", 0, () -> x.number(2, 0));
        C.due("1 is", -1, () -> x.number(2, 1));
        C.due("choice of the third", 3, () -> x.choice(0, 0, 1));
        C.due("-1 is not", 9, () -> x.number(3, 9));
        C.index("a fourth operand", () -> x.feed(2, 3, 0, 1));
        C.due("the third operand", 1, () -> x.feed(2, 2, 0, 1));
        x.constant(8);
        C.due("choice of two others", 5, () -> x.choice(1, 4, 3));
        C.due("the second operand", 8, () -> x.number(5, 1));
        C.due("the third one again", 0, () -> x.number(5, 0));
        Fabricmap y = full();
        C.index("no node is first", () -> y.choice(0, 12, 0));
        C.state("a thirteenth", () -> y.choice(0, 0, 0));
    }

    private static void feed() {
        Fabricmap x = summing();
        C.index("no node", () -> x.feed(2, 0, 0, 9));
        C.index("no other", () -> x.feed(1, 0, 2, 9));
        C.index("other -1", () -> x.feed(1, 0, -1, 1));
        C.index("operand 2", () -> x.feed(1, 2, 0, 1));
        C.index("operand -1", () -> x.feed(1, -1, 0, 1));
        C.index("operand of a round", () -> x.feed(0, 0, 0, 1));
        for (int wrong : new int[] {0, 4, -1, LOW, HIGH}) {
            C.argument("distance " + wrong, () -> x.feed(1, 0, 0, wrong));
        }
        C.due("nothing changed", 1 + 2 + 3, () -> x.number(1, 3));
        C.due("from itself", 1, () -> x.feed(1, 1, 1, 2));
        C.due("2 rounds ahead", 2 + 4, () -> x.number(1, 4));
        x.round();
        C.due("from a later one", 0, () -> x.feed(1, 0, 2, 3));
        C.due("3 rounds ahead", 1 + 3, () -> x.number(1, 6));
        x.place(1, 0, 0);
        C.argument("a wrong distance is first", () -> x.feed(1, 0, 0, 0));
        C.unsupported("the node is placed", () -> x.feed(1, 0, 0, 1));
        x.place(2, 1, 0);
        x.lift(1);
        C.due("the other one may be placed", 2, () -> x.feed(1, 0, 0, 1));
    }

    private static void first() {
        Fabricmap x = summing();
        C.due("first", 0, () -> x.first(1, 10));
        C.due("first again", 10, () -> x.first(1, 20));
        C.index("first of none", () -> x.first(2, 1));
        C.index("first of -1", () -> x.first(-1, 1));
        C.due("it counts", 26, () -> x.number(1, 3));
        x.place(1, 0, 0);
        C.due("first of a placed one", 20, () -> x.first(1, -6));
        C.due("it counts too", 0, () -> x.number(1, 3));
        x.clear();
        x.round();
        x.round();
        C.due("first behind clear", 0, () -> x.first(1, 1));
    }

    private static void clearAndNodes() {
        Fabricmap x = summing();
        x.set(0, 0, 9);
        x.bank(0, 1);
        x.map();
        x.run(1);
        long energy = x.energy();
        C.due("nodes", 2, () -> x.nodes());
        C.due("clear", 2, () -> x.clear());
        C.due("nodes behind", 0, () -> x.nodes());
        C.due("routes behind", 0, () -> x.routes());
        C.due("no node done", -1, () -> x.at(0, 0));
        C.due("numbers stay", 9, () -> x.get(0, 0));
        C.due("banks stay", 1, () -> x.bank(0, 1));
        C.due("energy stays", energy, () -> x.energy());
        C.due("clear again", 0, () -> x.clear());
        C.due("from 0 again", 0, () -> x.constant(1));
        C.missing("not placed", () -> x.cellOf(0));
        C.due("room at the old place", '-', () -> x.bars(0, 0, 0));
    }

    private static void barsInItsOrder() {
        Fabricmap x = new Fabricmap();
        C.index("no node", () -> x.bars(0, 0, 0));
        x.load(0, 1, 0);
        x.load(0, 1, 0);
        C.index("no cell is first", () -> x.bars(0, 9, 99));
        C.index("cell -1", () -> x.bars(0, -1, 0));
        for (int wrong : new int[] {-1, 32, LOW, HIGH}) {
            C.argument("time " + wrong, () -> x.bars(0, 0, wrong));
        }
        C.due("time 31", '-', () -> x.bars(0, 0, 31));
        x.kill(5);
        x.kill(6);
        C.due("a dead one ahead of the edge", 'd', () -> x.bars(0, 5, 0));
        C.due("the edge", 'e', () -> x.bars(0, 2, 0));
        C.due("dead at the edge", 'd', () -> x.bars(0, 6, 0));
        x.place(0, 0, 2);
        C.due("placed ahead of all", 'p', () -> x.bars(0, 5, 0));
        C.due("the cell ahead of the bank", 'c', () -> x.bars(1, 0, 4));
        C.due("the bank", 'b', () -> x.bars(1, 3, 4));
        C.due("another rest", '-', () -> x.bars(1, 3, 5));
        C.due("bars places nothing", -1, () -> x.at(3, 1));
        x.store(0, 1, 0, 1, 0);
        C.due("the bank ahead of the order", 'b', () -> x.bars(2, 3, 0));
        C.due("the order", 'm', () -> x.bars(2, 3, 1));
        x.constant(1);
        C.due("no bank for a constant", '-', () -> x.bars(3, 3, 4));
        x.load(3, 0, 0);
        C.due("a bank for all its arrays", 'b', () -> x.bars(4, 3, 4));
        x.bank(3, 1);
        C.due("the other bank", '-', () -> x.bars(4, 3, 4));
    }

    private static void barsByOrderOfMemory() {
        Fabricmap x = new Fabricmap();
        x.interval(4);
        x.load(0, 1, 0);
        x.constant(6);
        x.store(0, 1, 3, 1, 0);
        x.place(2, 0, 20);
        C.due("a place stored three rounds ahead, the same beat", 'b', () -> x.bars(0, 3, 20 - 12));
        C.due("one beat behind it", '-', () -> x.bars(0, 3, 20 - 12 + 1));
        C.due("one beat ahead of it", 'm', () -> x.bars(0, 3, 20 - 12 - 1));
        Fabricmap y = new Fabricmap();
        y.interval(8);
        y.load(0, 0, 5);
        y.store(0, 0, 5, 0, 0);
        y.place(0, 0, 4);
        C.due("the load ahead in its round", 'm', () -> y.bars(1, 3, 3));
        C.due("the store ahead of the next round", '-', () -> y.bars(1, 3, 11));
        C.due("the store behind the next round", 'm', () -> y.bars(1, 3, 13));
        Fabricmap z = new Fabricmap();
        z.interval(1);
        z.constant(1);
        z.load(0, 3, 0);
        z.store(0, 3, 15, 0, 0);
        z.bank(1, 1);
        z.load(1, 3, 0);
        z.store(1, 3, 3, 0, 0);
        z.place(1, 0, 10);
        C.due("one bank and one rest", 'b', () -> z.bars(2, 3, 15));
        z.lift(1);
        z.place(2, 0, 15);
        C.due("an array in the other bank", '-', () -> z.bars(3, 3, 15));
        Fabricmap w = new Fabricmap();
        w.interval(8);
        w.load(0, 1, 0);
        w.load(0, 1, 0);
        w.store(0, 2, 1, 0, 0);
        w.place(1, 0, 9);
        C.due("loads need no order", '-', () -> w.bars(0, 3, 14));
        w.lift(1);
        w.place(0, 0, 0);
        C.due("stores in later rounds, ahead of no load", 'm', () -> w.bars(2, 3, 31));
        Fabricmap v = new Fabricmap();
        v.interval(3);
        v.load(2, 2, 0);
        v.store(2, 2, 1, 0, 0);
        v.place(0, 0, 1);
        C.due("places that never meet", '-', () -> v.bars(1, 3, 9));
        v.place(1, 3, 3);
        v.lift(0);
        C.due("nor ahead", 'o', () -> v.bars(0, 0, 5));
    }

    /** A load that has the store's one place in one round only, the first or the last. */
    private static Fabricmap once(int offset, boolean loadIsFirst) {
        Fabricmap x = new Fabricmap();
        x.constant(1);
        x.interval(4);
        if (loadIsFirst) {
            x.load(0, 1, offset);
            x.store(0, 0, 0, 0, 0);
        } else {
            x.store(0, 0, 0, 0, 0);
            x.load(0, 1, offset);
        }
        return x;
    }

    private static void barsByRoundsFrom0To15() {
        Fabricmap x = once(0, true);
        x.place(1, 0, 6);
        C.due("behind the load of the round 0", '-', () -> x.bars(2, 3, 31));
        C.due("ahead of the load of the round 0", 'm', () -> x.bars(2, 3, 5));
        x.lift(1);
        x.place(2, 0, 31);
        C.due("the load ahead of all stores", '-', () -> x.bars(1, 3, 0));
        C.due("the load just ahead of them", '-', () -> x.bars(1, 3, 30));
        Fabricmap y = once(0, false);
        y.place(1, 0, 10);
        C.due("between the first store and the next one", '-', () -> y.bars(2, 3, 13));
        C.due("behind the next one", 'm', () -> y.bars(2, 3, 15));
        C.due("ahead of the first one", 'm', () -> y.bars(2, 3, 9));
        Fabricmap z = once(1, false);
        z.place(1, 0, 2);
        C.due("behind the store of the round 15", '-', () -> z.bars(2, 3, 31));
        C.due("ahead of the store of the round 15", 'm', () -> z.bars(2, 3, 1));
        z.lift(1);
        z.place(2, 0, 30);
        C.due("the stores ahead of the load", '-', () -> z.bars(1, 3, 1));
        Fabricmap w = once(1, true);
        w.place(1, 0, 10);
        C.due("between the last store but one and the last one", '-', () -> w.bars(2, 3, 13));
        C.due("the last store but one comes too late", 'm', () -> w.bars(2, 3, 15));
        C.due("the last store comes too early", 'm', () -> w.bars(2, 3, 9));
    }

    private static void barsByRoutes() {
        Fabricmap x = pair(3, 3, 2, 8);
        C.due("fewer than 0 beats", 'o', () -> x.bars(1, 1, 0));
        C.due("0 beats to another cell", 'r', () -> x.bars(1, 1, 1));
        C.due("0 beats to its cell", '-', () -> x.bars(1, 0, 1));
        C.due("8 beats", '-', () -> x.bars(1, 1, 9));
        C.due("more than 8 beats", 'o', () -> x.bars(1, 1, 10));
        C.due("4 beats away", 'r', () -> x.bars(1, 8, 4));
        C.due("4 beats", '-', () -> x.bars(1, 8, 5));
        C.due("a used cell ahead of that", 'c', () -> x.bars(1, 0, 8));
        Fabricmap y = summing();
        y.interval(8);
        C.due("a round to itself of 7 beats", '-', () -> y.bars(1, 0, 0));
        y.feed(1, 1, 1, 2);
        C.due("a round to itself of 15 beats", 'o', () -> y.bars(1, 0, 0));
        y.interval(3);
        y.feed(1, 1, 1, 3);
        C.due("a round to itself of 8 beats", '-', () -> y.bars(1, 0, 0));
        y.place(0, 4, 0);
        C.due("a far operand", 'r', () -> y.bars(1, 0, 1));
        C.due("its user needs time", 'o', () -> y.bars(1, 0, 10));
        Fabricmap z = new Fabricmap();
        z.square(1, 1, 1);
        z.interval(2);
        z.constant(1);
        z.two('+', 0, 0, 0, 0);
        z.place(1, 0, 9);
        C.due("ahead of its user", '-', () -> z.bars(0, 0, 8));
        C.due("in its user's place", 'c', () -> z.bars(0, 0, 9));
        C.due("two numbers for one register", 'r', () -> z.bars(0, 0, 4));
        C.due("too late for its user", 'o', () -> z.bars(0, 0, 10));
        C.due("too early for its user is full ahead of it", 'c', () -> z.bars(0, 0, 31));
    }

    private static void placeAndRoutes() {
        Fabricmap x = summing();
        C.index("no node", () -> x.place(2, 0, 0));
        C.index("no cell is first", () -> x.place(0, 9, 99));
        C.argument("time 32 is next", () -> x.place(0, 0, 32));
        C.argument("time -1", () -> x.place(0, 0, -1));
        C.due("a sum to itself", 1, () -> x.place(1, 4, 3));
        C.argument("wrong ahead of placed", () -> x.place(1, 0, 32));
        C.unsupported("placed", () -> x.place(1, 0, 0));
        C.due("to itself it stays", ".", () -> route(x, 1, 1));
        C.due("its operand", 1, () -> x.place(0, 0, 0));
        C.due("right ahead of down", "es", () -> route(x, 1, 0));
        C.due("routes", 2, () -> x.routes());
        C.unsupported("placed too", () -> x.place(0, 0, 0));
        Fabricmap y = summing();
        y.interval(8);
        y.two('m', 1, 0, 1, 2);
        y.place(0, 1, 0);
        y.place(2, 7, 7);
        C.due("from and to others", 'o', () -> y.bars(1, 4, 4));
        y.lift(2);
        y.place(2, 7, 6);
        C.due("18 beats are too many", 'o', () -> y.bars(1, 4, 4));
        y.interval(1);
        y.place(0, 1, 0);
        y.place(2, 7, 6);
        C.due("all four", 4, () -> y.place(1, 4, 4));
        C.due("to itself at once", "", () -> route(y, 1, 1));
        C.due("from the operand, stays first", "..s", () -> route(y, 1, 0));
        C.due("to the first operand", "s", () -> route(y, 2, 0));
        C.due("to the second one, round the wire of the first", "esw", () -> route(y, 2, 1));
    }

    private static void sharedNumbers() {
        Fabricmap x = pair(3, 1, 1, 2);
        x.two('-', 0, 0, 0, 0);
        x.two('*', 0, 0, 0, 0);
        x.place(1, 1, 2);
        x.place(2, 2, 3);
        C.due("one number on one wire", "e", () -> route(x, 1, 1));
        C.due("the wire shared", "ee", () -> route(x, 2, 0));
        x.lift(1);
        C.due("the wire is taken still", true, () -> x.isTaken(0, 'e', 1));
        x.lift(2);
        C.due("the wire is free", false, () -> x.isTaken(0, 'e', 1));
        x.place(1, 0, 3);
        C.due("there is one register by each rest", "..", () -> route(x, 1, 0));
        C.due("the register shared", '-', () -> x.bars(2, 1, 4));
        x.place(2, 1, 4);
        C.due("the register shared, then on", "..e", () -> route(x, 2, 1));
        C.due("one is held", 1, () -> x.held(0, 1));
        x.lift(1);
        C.due("one is held still", 1, () -> x.held(0, 1));
        C.due("at the other rest too", 1, () -> x.held(0, 0));
        C.due("another beat of the rest is another number", "..e.",
                () -> x.place(3, 1, 5) < 0 ? "" : route(x, 3, 0));
    }

    private static void numbersInEachOthersWay() {
        Fabricmap x = pair(2, 1, 1, 2);
        C.due("four beats: each register once", 2, () -> x.place(1, 0, 5));
        C.due("no third stay in a cell of one register", "..ew", () -> route(x, 1, 0));
        Fabricmap y = pair(4, 1, 2, 8);
        y.constant(7);
        y.two('*', 2, 0, 2, 0);
        y.place(1, 3, 4);
        y.place(2, 1, 9);
        C.due("the wire is another node's by this rest", 'r', () -> y.bars(3, 2, 11));
        C.due("and free by the next", 2, () -> y.place(3, 2, 12));
        C.due("for which the number stays", ".e", () -> route(y, 3, 0));
        Fabricmap z = pair(2, 1, 0, 1);
        C.due("a third beat would take the first wire once more", 'r', () -> z.bars(1, 1, 4));
        C.due("the first beat is free", '-', () -> z.bars(1, 1, 2));
        z.square(2, 1, 0);
        z.interval(4);
        z.place(0, 0, 0);
        C.due("by another rest it is free", '-', () -> z.bars(1, 1, 4));
        Fabricmap w = pair(2, 1, 1, 1);
        C.due("four beats are too many for two registers and two wires", 'r', () -> w.bars(1, 1, 5));
        C.due("no register is taken by what was tried", 0, () -> w.held(0, 0) + w.held(1, 0));
        C.due("no wire is taken by what was tried", false, () -> w.isTaken(0, 'e', 0) || w.isTaken(1, 'w', 0));
        w.square(2, 2, 1);
        w.place(0, 0, 0);
        C.due("with four cells there is a way", 2, () -> w.place(1, 1, 5));
        C.due("stays, goes, and comes back another way", ".esn", () -> route(w, 1, 0));
        C.due("it stays once", 1, () -> w.held(0, 0));
        C.due("and not where it was tried", 0, () -> w.held(1, 0));
    }

    private static void lift() {
        Fabricmap x = summing();
        C.index("no node", () -> x.lift(2));
        C.index("node -1", () -> x.lift(-1));
        C.unsupported("not placed", () -> x.lift(1));
        x.two('-', 1, 0, 1, 0);
        x.place(0, 0, 0);
        x.place(1, 1, 2);
        x.place(2, 1, 3);
        C.due("routes", 4, () -> x.routes());
        C.due("lift", 4, () -> x.lift(1));
        C.due("no routes", 0, () -> x.routes());
        C.due("others stay", 1, () -> x.cellOf(2));
        C.missing("it does not", () -> x.cellOf(1));
        C.unsupported("lift again", () -> x.lift(1));
        C.due("place again", 4, () -> x.place(1, 1, 2));
        C.due("lift a user", 2, () -> x.lift(2));
    }

    private static void map() {
        Fabricmap x = new Fabricmap();
        C.due("map nothing", 0, () -> x.map());
        x.square(2, 1, 1);
        for (int i = 0; i < 5; i++) {
            x.constant(i);
        }
        x.place(3, 0, 0);
        C.due("map till the cells are used", 4, () -> x.map());
        C.due("the first goes beside it", 1, () -> x.cellOf(0));
        C.due("at once", 0, () -> x.timeOf(0));
        C.due("the second goes behind", 0, () -> x.cellOf(1));
        C.due("a beat later", 1, () -> x.timeOf(1));
        C.missing("the last finds none", () -> x.cellOf(4));
        C.due("map again", 4, () -> x.map());
        x.kill(0);
        C.due("map ends at the first that cannot be placed", 2, () -> x.map());
        Fabricmap y = new Fabricmap();
        y.square(1, 1, 0);
        y.round();
        y.two('+', 0, 0, 0, 0);
        y.constant(1);
        y.place(0, 0, 3);
        y.kill(0);
        C.due("none on a dead cell", 0, () -> y.map());
        y.heal(0);
        C.due("map behind heal", 2, () -> y.map());
        C.due("its user next", 1, () -> y.timeOf(1));
        Fabricmap z = new Fabricmap();
        z.square(1, 1, 0);
        z.interval(8);
        z.constant(5);
        z.two('+', 0, 0, 0, 0);
        z.constant(6);
        z.place(1, 0, 31);
        C.due("map ahead of a late user", 3, () -> z.map());
        C.due("which leaves one beat alone", 30, () -> z.timeOf(0));
        C.due("all others go first", 0, () -> z.timeOf(2));
        C.due("with routes of no beats", "", () -> route(z, 1, 1));
    }

    private static void cellOfAndTimeOf() {
        Fabricmap x = new Fabricmap();
        C.index("cell of no node", () -> x.cellOf(0));
        C.index("time of no node", () -> x.timeOf(0));
        x.constant(1);
        C.missing("cell of one not placed", () -> x.cellOf(0));
        C.missing("time of one not placed", () -> x.timeOf(0));
        C.index("cell of -1", () -> x.cellOf(-1));
        C.index("time of 1", () -> x.timeOf(1));
        x.place(0, 7, 31);
        C.due("cell", 7, () -> x.cellOf(0));
        C.due("time", 31, () -> x.timeOf(0));
    }

    private static void at() {
        Fabricmap x = new Fabricmap();
        x.constant(1);
        x.constant(2);
        x.place(0, 7, 31);
        x.place(1, 7, 4);
        C.due("at the rest 1", 0, () -> x.at(7, 1));
        C.due("at the rest 0", 1, () -> x.at(7, 0));
        C.due("at another cell", -1, () -> x.at(6, 0));
        C.index("no cell is first", () -> x.at(9, 9));
        C.index("cell -1", () -> x.at(-1, 0));
        C.argument("rest 2", () -> x.at(7, 2));
        C.argument("rest -1", () -> x.at(7, -1));
        C.argument("rest of all", () -> x.at(7, LOW));
    }

    private static void lengthAndStep() {
        Fabricmap x = summing();
        C.index("length of no node", () -> x.length(2, 0));
        C.index("length of no operand", () -> x.length(1, 2));
        C.index("length of a round's operand", () -> x.length(0, 0));
        C.index("length of -1", () -> x.length(1, -1));
        C.missing("length of no route", () -> x.length(1, 0));
        C.index("step of no node", () -> x.step(-1, 0, 0));
        C.index("step of no operand", () -> x.step(1, 3, 0));
        C.missing("step of no route", () -> x.step(1, 0, 0));
        x.place(0, 4, 0);
        x.place(1, 0, 4);
        C.due("length", 3, () -> x.length(1, 0));
        C.due("length to itself", 1, () -> x.length(1, 1));
        C.due("step 0", '.', () -> x.step(1, 0, 0));
        C.due("step 1", 'n', () -> x.step(1, 0, 1));
        C.due("step 2", 'w', () -> x.step(1, 0, 2));
        C.missing("step 3", () -> x.step(1, 0, 3));
        C.missing("step -1", () -> x.step(1, 0, -1));
        C.missing("step of all", () -> x.step(1, 0, HIGH));
        C.due("step to itself", '.', () -> x.step(1, 1, 0));
        x.lift(0);
        C.missing("its length is gone", () -> x.length(1, 0));
        C.due("that to itself is not", 1, () -> x.length(1, 1));
        x.lift(1);
        x.place(0, 8, 0);
        x.place(1, 0, 5);
        C.due("up and left", "nnww", () -> route(x, 1, 0));
        x.lift(1);
        x.place(1, 0, 9);
        C.due("8 beats", 8, () -> x.length(1, 0));
        C.due("the last of them", 'w', () -> x.step(1, 0, 7));
        C.missing("no ninth", () -> x.step(1, 0, 8));
    }

    private static void heldAndTaken() {
        Fabricmap x = pair(2, 2, 2, 2);
        C.index("held in no cell is first", () -> x.held(4, 9));
        C.index("held in -1", () -> x.held(-1, 0));
        C.argument("held at 2", () -> x.held(0, 2));
        C.argument("held at -1", () -> x.held(0, -1));
        C.index("taken at no cell is first", () -> x.isTaken(4, 'q', 9));
        C.argument("taken that way", () -> x.isTaken(0, 'q', 0));
        C.argument("taken where is none", () -> x.isTaken(0, 'n', 0));
        C.argument("taken at 2", () -> x.isTaken(0, 'e', 2));
        C.argument("taken at -1", () -> x.isTaken(0, 'e', -1));
        x.place(1, 1, 6);
        C.due("the route", "....e", () -> route(x, 1, 0));
        C.due("two numbers at the rest 1", 2, () -> x.held(0, 1));
        C.due("two at the rest 0", 2, () -> x.held(0, 0));
        C.due("none where it comes to", 0, () -> x.held(1, 0));
        C.due("the wire at the rest 1", true, () -> x.isTaken(0, 'e', 1));
        C.due("the wire at the rest 0", false, () -> x.isTaken(0, 'e', 0));
        C.due("the wire back", false, () -> x.isTaken(1, 'w', 1));
        C.due("bars takes nothing", '-', () -> {
            x.lift(1);
            return x.bars(1, 1, 6);
        });
        C.due("held behind bars", 0, () -> x.held(0, 1));
        C.due("taken behind bars", false, () -> x.isTaken(0, 'e', 1));
    }

    private static void least() {
        Fabricmap x = new Fabricmap();
        C.unsupported("no nodes", () -> x.least());
        x.constant(1);
        C.due("one", 1, () -> x.least());
        x.square(1, 1, 0);
        for (int i = 0; i < 11; i++) {
            x.constant(i);
        }
        C.due("twelve nodes on a cell", 12, () -> x.least());
        x.kill(0);
        C.unsupported("all cells are dead", () -> x.least());
        x.square(4, 1, 0);
        C.due("on four cells", 3, () -> x.least());
        x.kill(2);
        C.due("on three cells", 4, () -> x.least());
        x.kill(1);
        C.due("on two cells", 6, () -> x.least());
        Fabricmap y = new Fabricmap();
        y.load(0, 0, 0);
        y.load(1, 0, 0);
        y.store(0, 0, 0, 0, 0);
        C.due("three of one bank", 3, () -> y.least());
        y.bank(0, 1);
        C.due("two of the other bank", 2, () -> y.least());
        Fabricmap z = new Fabricmap();
        z.round();
        for (int i = 1; i < 12; i++) {
            z.two('+', i - 1, 0, 0, 0);
        }
        z.feed(1, 1, 11, 3);
        C.due("eleven nodes in a ring of 3 rounds", 4, () -> z.least());
        z.feed(3, 1, 11, 1);
        C.due("nine nodes in a ring of a round", 9, () -> z.least());
        z.feed(1, 0, 11, 1);
        C.due("the shorter distance counts", 11, () -> z.least());
        z.feed(6, 0, 5, 3);
        C.due("a distance on the way, too", 3, () -> z.least());
        Fabricmap w = summing();
        w.two('+', 1, 0, 1, 0);
        w.feed(1, 0, 2, 2);
        C.due("a ring to itself and one of two", 1, () -> w.least());
        w.feed(1, 0, 2, 1);
        C.due("a ring of two", 2, () -> w.least());
    }

    private static void run() {
        Fabricmap x = new Fabricmap();
        C.argument("0 rounds are first", () -> x.run(0));
        C.argument("17 rounds", () -> x.run(17));
        C.argument("rounds of all", () -> x.run(LOW));
        C.unsupported("no nodes", () -> x.run(1));
        x.round();
        x.store(1, 1, 14, 0, 1);
        x.first(0, 50);
        x.place(0, 0, 0);
        C.unsupported("not all are placed", () -> x.run(16));
        C.due("nothing spent", 0L, () -> x.energy());
        x.place(1, 3, 5);
        C.due("run", 6 + 2 * 2, () -> x.run(3));
        C.due("the first number", 50, () -> x.get(1, 14));
        C.due("the first round", 0, () -> x.get(1, 15));
        C.due("round the end", 1, () -> x.get(1, 0));
        C.due("no further round", 0, () -> x.get(1, 1));
        C.due("run from round 0 again", 6 + 15 * 2, () -> x.run(16));
        C.due("its last", 14, () -> x.get(1, 13));
        Fabricmap y = new Fabricmap();
        y.interval(3);
        y.load(0, 1, 0);
        y.store(0, 1, 1, 0, 0);
        y.set(0, 0, 8);
        C.due("mapped", 2, () -> y.map());
        C.due("a number from place to place", 1 + 1 + 7 * 3, () -> y.run(8));
        C.due("at its end", 8, () -> y.get(0, 8));
        C.due("and no further", 0, () -> y.get(0, 9));
        Fabricmap z = new Fabricmap();
        z.constant(4);
        z.place(0, 0, 31);
        C.due("beats begin at 0", 32, () -> z.run(1));
    }

    private static void energy() {
        Fabricmap x = pair(3, 1, 2, 2);
        x.place(1, 2, 5);
        C.due("stays, then goes", "..ee", () -> route(x, 1, 0));
        x.run(1);
        C.due("two nodes and two wires, shared", 4L, () -> x.energy());
        x.run(16);
        C.due("for each round", 68L, () -> x.energy());
        x.clear();
        C.due("stays behind clear", 68L, () -> x.energy());
        x.round();
        x.two('+', 0, 3, 0, 3);
        x.place(0, 0, 0);
        x.place(1, 2, 0);
        x.run(1);
        C.due("a number that none will have goes too", 68L + 4L, () -> x.energy());
        Fabricmap y = new Fabricmap();
        y.constant(1);
        y.map();
        y.run(16);
        C.due("one node", 16L, () -> y.energy());
    }

    private static void wouldAndNumber() {
        Fabricmap x = new Fabricmap();
        C.due("would of no nodes", 0, () -> x.would(1, 3, 15));
        int[][] wrong = {{0, 0, 0}, {17, 0, 0}, {1, -1, 0}, {1, 4, 0}, {1, 0, -1}, {1, 0, 16},
            {LOW, 0, 0}, {HIGH, 0, 0}, {1, LOW, 0}, {1, HIGH, 0}, {1, 0, LOW}, {1, 0, HIGH}};
        for (int[] w : wrong) {
            C.argument("would " + w[0] + " " + w[1] + " " + w[2], () -> x.would(w[0], w[1], w[2]));
        }
        C.index("number of none is first", () -> x.number(0, 99));
        x.load(0, 1, 0);
        x.store(0, 1, 1, 0, 0);
        x.set(0, 0, 9);
        for (int round : new int[] {-1, 16, LOW, HIGH}) {
            C.argument("number in " + round, () -> x.number(0, round));
        }
        C.index("number of -1", () -> x.number(-1, 0));
        C.due("would behind 4", 9, () -> x.would(4, 0, 4));
        C.due("would not yet", 0, () -> x.would(4, 0, 5));
        C.due("would behind 16", 9, () -> x.would(16, 0, 15));
        C.due("number in a round, done one by one", 9, () -> x.number(0, 15));
        C.due("nothing is stored", 0, () -> x.get(0, 1));
        x.set(0, 1, 5);
        C.due("from the numbers of now", 9, () -> x.number(0, 2));
        C.due("number in the round 0", 9, () -> x.number(1, 0));
        C.due("no energy", 0L, () -> x.energy());
    }

    private static void checksum() {
        Fabricmap x = new Fabricmap();
        long sum = 7;
        for (int i = 0; i < 64; i++) {
            sum = sum * 31;
        }
        long empty = sum;
        C.due("sum at first", empty, () -> x.checksum());
        x.set(0, 0, -1);
        x.set(3, 15, 5);
        long first = -1;
        for (int i = 0; i < 63; i++) {
            first *= 31;
        }
        long filled = empty + first + 5;
        C.due("sum with numbers", filled, () -> x.checksum());
        x.constant(1);
        x.constant(1);
        x.constant(1);
        x.place(2, 1, 3);
        x.place(0, 4, 31);
        C.due("sum with nodes", (filled * 31 + 32 * 4 + 31) * 31 + 32 + 3, () -> x.checksum());
    }

    private static void shareAndMean() {
        Fabricmap x = pair(3, 1, 2, 8);
        C.due("share of one", 1f / 24f, () -> x.share());
        C.due("no mean", "throws.ArithmeticException", () -> x.meanLength());
        x.place(1, 2, 4);
        C.due("share of two", 2f / 24f, () -> x.share());
        C.due("mean of two alike", 3.0, () -> x.meanLength());
        x.two('m', 0, 0, 1, 0);
        x.place(2, 2, 7);
        C.due("mean of four", (3 + 3 + 6 + 2) / 4.0, () -> x.meanLength());
        x.kill(1);
        C.due("share with dead cells", 1f / 24f, () -> x.share());
        C.due("share of none", 0f, () -> new Fabricmap().share());
        Fabricmap z = new Fabricmap();
        z.constant(1);
        z.store(0, 0, 0, 0, 0);
        z.place(0, 1, 0);
        z.place(1, 3, 4);
        C.due("mean of one", 3.0, () -> z.meanLength());
        Fabricmap y = pair(1, 1, 0, 2);
        y.place(1, 0, 1);
        C.due("mean of no beats", 0.0, () -> y.meanLength());
        C.due("share of all", 1f, () -> y.share());
    }

    private static void isSound() {
        Fabricmap x = new Fabricmap();
        C.due("sound at first", true, () -> x.isSound());
        x.load(0, 1, 0);
        x.two('+', 0, 0, 0, 1);
        x.store(0, 1, 3, 1, 0);
        x.set(0, 0, 3);
        C.due("sound unplaced", true, () -> x.isSound());
        x.map();
        C.due("sound mapped", true, () -> x.isSound());
        C.due("it stores nothing", 0, () -> x.get(0, 3));
        x.kill(0);
        C.due("sound behind a dead cell", true, () -> x.isSound());
        Fabricmap y = pair(3, 3, 2, 3);
        C.due("sound with a user not placed", true, () -> y.isSound());
        y.place(1, 8, 5);
        y.two('*', 1, 0, 0, 0);
        C.due("sound with a node not placed", true, () -> y.isSound());
        y.lift(0);
        C.due("sound with an operand not placed", true, () -> y.isSound());
        x.map();
        C.due("sound mapped again", true, () -> x.isSound());
        C.due("taken is as before", x.held(3, 0), () -> x.held(3, 0));
    }

    /** 512 calls upon one object, the last ones as good as the first ones. */
    private static void manyCalls() {
        Fabricmap x = summing();
        for (int call = 0; call < 100; call++) {
            x.map();
            x.run(16);
            x.lift(0);
            x.kill(call % 9);
            x.heal(call % 9);
        }
        x.clear();
        C.due("a node behind many calls", 0, () -> x.constant(3));
        C.due("mapped behind many calls", 1, () -> x.map());
    }
}
