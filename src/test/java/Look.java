/**
 * All that can be seen of an object by its face, as a text. What changes it comes last, so the object
 * is of no use behind that. On a square of 9 cells with the interval 2 it makes some 400 calls.
 */
final class Look {
    private final Fabricmap x;
    private final StringBuilder text = new StringBuilder();

    private Look(Fabricmap x) {
        this.x = x;
    }

    static String at(Fabricmap x) {
        Look look = new Look(x);
        int cells = look.cellsAndWires();
        look.wholes();
        look.nodes();
        look.numbers();
        look.heal(cells);
        look.operands();
        look.registers(cells);
        return look.text.toString();
    }

    /** Answers whether the call threw nothing. */
    private boolean tell(Check.Call call) {
        String answer = Check.answerOf(call);
        text.append(answer).append(' ');
        return !answer.startsWith("throws.");
    }

    private void part(String name) {
        text.append('\n').append(name).append(": ");
    }

    private int cellsAndWires() {
        part("cells");
        int rests = 0;
        while (isThere(0, rests)) {
            rests++;
        }
        int cells = 0;
        while (isThere(cells, 0)) {
            for (int rest = 0; rest < rests; rest++) {
                int c = cells;
                int r = rest;
                tell(() -> x.at(c, r));
                tell(() -> x.held(c, r));
                for (char way : "nesw".toCharArray()) {
                    tell(() -> x.isTaken(c, way, r));
                }
            }
            cells++;
        }
        return cells;
    }

    private boolean isThere(int cell, int rest) {
        return tell(() -> x.at(cell, rest));
    }

    private void wholes() {
        part("wholes");
        tell(x::nodes);
        tell(x::routes);
        tell(x::energy);
        tell(x::checksum);
        tell(x::share);
        tell(x::meanLength);
        tell(x::least);
        tell(x::isSound);
    }

    private void nodes() {
        part("nodes");
        for (int node = 0; node < x.nodes(); node++) {
            int n = node;
            tell(() -> x.cellOf(n));
            tell(() -> x.timeOf(n));
            tell(() -> x.number(n, 0));
            tell(() -> x.number(n, 4));
            for (int operand = 0; operand < 3; operand++) {
                route(n, operand);
            }
        }
    }

    private void route(int node, int operand) {
        if (tell(() -> x.length(node, operand))) {
            int length = x.length(node, operand);
            for (int beat = 0; beat < length; beat++) {
                int b = beat;
                tell(() -> x.step(node, operand, b));
            }
        }
    }

    private void numbers() {
        part("numbers");
        for (int spot = 0; spot < 64; spot++) {
            int array = spot / 16;
            int place = spot % 16;
            tell(() -> x.get(array, place));
        }
    }

    private void heal(int cells) {
        part("wounds");
        for (int cell = 0; cell < cells; cell++) {
            int c = cell;
            tell(() -> x.heal(c));
            for (char way : "nesw".toCharArray()) {
                tell(() -> x.mend(c, way));
            }
        }
    }

    private void operands() {
        part("operands");
        for (int node = 0; node < x.nodes(); node++) {
            int n = node;
            tell(() -> x.lift(n));
            tell(() -> x.first(n, 0));
            for (int operand = 0; operand < 3; operand++) {
                int o = operand;
                tell(() -> x.feed(n, o, 0, 1));
            }
        }
        for (int array = 0; array < 4; array++) {
            int a = array;
            tell(() -> x.bank(a, 0));
        }
    }

    /** A long way by an interval of 1 stays in its cells as often as they have registers. */
    private void registers(int cells) {
        part("registers");
        x.clear();
        x.interval(1);
        x.round();
        x.two('+', 0, 0, 0, 0);
        tell(() -> x.place(0, 0, 0));
        tell(() -> x.place(1, cells - 1, 9));
        route(1, 0);
    }
}
