/** Objects as tests need them, each made by a few calls. */
final class Scenes {
    static final int LOW = Integer.MIN_VALUE;
    static final int HIGH = Integer.MAX_VALUE;

    private Scenes() {
    }

    /** Numbers that are no part of a range, those beside it first. */
    static int[] outside(int low, int high) {
        return new int[] {low - 1, high + 1, LOW, HIGH};
    }

    /** Something of all: four placed nodes with routes, two that are not, a run, a dead cell, cut wires. */
    static Fabricmap rich() {
        Fabricmap x = new Fabricmap();
        x.set(0, 1, 5);
        x.set(1, 15, -3);
        x.set(1, 13, 8);
        x.bank(1, 1);
        x.round();
        x.constant(4);
        x.two('+', 0, 0, 1, 0);
        x.store(0, 1, 2, 2, 0);
        x.first(2, 9);
        x.place(0, 1, 0);
        x.place(1, 4, 0);
        x.place(2, 0, 3);
        x.place(3, 3, 5);
        x.run(2);
        x.load(1, -2, 15);
        x.two('*', 4, 0, 2, 1);
        x.feed(5, 0, 5, 3);
        x.kill(8);
        x.cut(2, 'w');
        x.cut(5, 's');
        return x;
    }

    /** Twelve numbers, 0 to 11, none of them placed. */
    static Fabricmap twelve() {
        Fabricmap x = new Fabricmap();
        for (int number = 0; number < 12; number++) {
            x.constant(number);
        }
        return x;
    }

    /** A round (0), at the first cell at the beat 0, and a sum (1) that has it twice as its operand. */
    static Fabricmap pair(int wide, int high, int registers, int interval) {
        Fabricmap x = new Fabricmap();
        x.square(wide, high, registers);
        x.interval(interval);
        x.round();
        x.two('+', 0, 0, 0, 0);
        x.place(0, 0, 0);
        return x;
    }

    /** A round (0), and a sum (1) of it and of itself, so many rounds ahead. */
    static Fabricmap summing(int distance) {
        Fabricmap x = new Fabricmap();
        x.round();
        x.two('+', 0, 0, 0, 0);
        x.feed(1, 1, 1, distance);
        return x;
    }

    static String route(Fabricmap x, int node, int operand) {
        StringBuilder text = new StringBuilder();
        int length = x.length(node, operand);
        for (int beat = 0; beat < length; beat++) {
            text.append(x.step(node, operand, beat));
        }
        return text.toString();
    }

    /** What bars a node at a cell, at each of some times. */
    static String bars(Fabricmap x, int node, int cell, int... times) {
        StringBuilder text = new StringBuilder();
        for (int time : times) {
            text.append(x.bars(node, cell, time));
        }
        return text.toString();
    }
}
