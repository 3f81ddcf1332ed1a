import java.util.ArrayList;
import java.util.Comparator;
import java.util.HashMap;
import java.util.HashSet;
import java.util.List;
import java.util.Map;
import java.util.NoSuchElementException;
import java.util.Set;

/**
 * The document written down a second time, as slowly and as plainly as can be, with nothing kept
 * that can be found out again: RandomRunsTest holds the program against it.
 */
public final class NaiveFabric {
    private static final String LETTERS = ".nesw";
    private static final int[] DX = {0, 0, 1, 0, -1};
    private static final int[] DY = {0, -1, 0, 1, 0};

    private record Operand(int source, int distance) {
    }

    private static final class Node {
        char kind;
        int array;
        int stride;
        int offset;
        int number;
        int first;
        int cell = -1;
        int time = -1;
        final List<Operand> operands = new ArrayList<>();
        final String[] routes = new String[3];

        boolean isPlaced() {
            return cell >= 0;
        }

        boolean isMemory() {
            return kind == 'l' || kind == 's';
        }

        int placeIn(int round) {
            return (((stride * round + offset) % 16) + 16) % 16;
        }
    }

    /** One number at one of its beats upon a register ('.') or a wire. */
    private record Use(int source, int beat, int cell, char letter) {
    }

    private int wide = 3;
    private int high = 3;
    private int registers = 2;
    private int interval = 2;
    private final Set<Integer> dead = new HashSet<>();
    private final Set<String> cut = new HashSet<>();
    private final int[][] memory = new int[4][16];
    private final int[] banks = new int[4];
    private final List<Node> nodes = new ArrayList<>();
    private long energy;

    public int square(int wide, int high, int registers) {
        if (wide < 1 || wide > 4 || high < 1 || high > 4 || registers < 0 || registers > 4) {
            throw new IllegalArgumentException();
        }
        this.wide = wide;
        this.high = high;
        this.registers = registers;
        dead.clear();
        cut.clear();
        return removeAll(placedNodes());
    }

    public int interval(int interval) {
        if (interval < 1 || interval > 8) {
            throw new IllegalArgumentException();
        }
        this.interval = interval;
        return removeAll(placedNodes());
    }

    public int kill(int cell) {
        checkCell(cell);
        if (dead.contains(cell)) {
            throw new UnsupportedOperationException();
        }
        Set<Integer> going = new HashSet<>();
        for (int n = 0; n < nodes.size(); n++) {
            Node node = nodes.get(n);
            if (node.cell == cell) {
                going.add(n);
            }
            for (int o = 0; o < 3; o++) {
                if (node.routes[o] != null && cellsOf(n, o).contains(cell)) {
                    going.add(n);
                }
            }
        }
        dead.add(cell);
        return removeAll(going);
    }

    public boolean heal(int cell) {
        checkCell(cell);
        return dead.remove(cell);
    }

    public int cut(int cell, char way) {
        checkCell(cell);
        checkWire(cell, way);
        if (!cut.add(cell + "" + way)) {
            throw new UnsupportedOperationException();
        }
        Set<Integer> going = new HashSet<>();
        for (int n = 0; n < nodes.size(); n++) {
            for (int o = 0; o < 3; o++) {
                String route = nodes.get(n).routes[o];
                for (int b = 0; route != null && b < route.length(); b++) {
                    if (route.charAt(b) == way && cellsOf(n, o).get(b) == cell) {
                        going.add(n);
                    }
                }
            }
        }
        return removeAll(going);
    }

    public boolean mend(int cell, char way) {
        checkCell(cell);
        checkWire(cell, way);
        return cut.remove(cell + "" + way);
    }

    public int bank(int array, int bank) {
        if (array < 0 || array > 3 || bank < 0 || bank > 1) {
            throw new IllegalArgumentException();
        }
        for (Node node : nodes) {
            if (node.isMemory() && node.isPlaced() && node.array == array) {
                throw new UnsupportedOperationException();
            }
        }
        int before = banks[array];
        banks[array] = bank;
        return before;
    }

    public int set(int array, int place, int number) {
        int before = get(array, place);
        memory[array][place] = number;
        return before;
    }

    public int get(int array, int place) {
        if (array < 0 || array > 3 || place < 0 || place > 15) {
            throw new IllegalArgumentException();
        }
        return memory[array][place];
    }

    public int load(int array, int stride, int offset) {
        checkAim(array, stride, offset);
        return add('l', array, stride, offset);
    }

    public int store(int array, int stride, int offset, int node, int distance) {
        checkNode(node);
        checkAim(array, stride, offset);
        checkDistance(distance, 0);
        return add('s', array, stride, offset, new Operand(node, distance));
    }

    public int constant(int number) {
        int node = add('k', 0, 0, 0);
        nodes.get(node).number = number;
        return node;
    }

    public int round() {
        return add('i', 0, 0, 0);
    }

    public int two(char kind, int one, int distance, int other, int far) {
        checkNode(one);
        checkNode(other);
        if ("+-*m<".indexOf(kind) < 0) {
            throw new IllegalArgumentException();
        }
        checkDistance(distance, 0);
        checkDistance(far, 0);
        return add(kind, 0, 0, 0, new Operand(one, distance), new Operand(other, far));
    }

    public int choice(int test, int one, int other) {
        checkNode(test);
        checkNode(one);
        checkNode(other);
        return add('?', 0, 0, 0, new Operand(test, 0), new Operand(one, 0), new Operand(other, 0));
    }

    public int feed(int node, int operand, int other, int distance) {
        checkOperand(node, operand);
        checkNode(other);
        checkDistance(distance, 1);
        if (nodes.get(node).isPlaced()) {
            throw new UnsupportedOperationException();
        }
        return nodes.get(node).operands.set(operand, new Operand(other, distance)).source();
    }

    public int first(int node, int number) {
        checkNode(node);
        int before = nodes.get(node).first;
        nodes.get(node).first = number;
        return before;
    }

    public int clear() {
        int before = nodes.size();
        nodes.clear();
        return before;
    }

    public int nodes() {
        return nodes.size();
    }

    public char bars(int node, int cell, int time) {
        checkSpot(node, cell, time);
        char letter = tryAt(node, cell, time);
        if (letter == '-') {
            remove(node);
        }
        return letter;
    }

    public int place(int node, int cell, int time) {
        checkSpot(node, cell, time);
        int before = routes();
        if (tryAt(node, cell, time) != '-') {
            throw new UnsupportedOperationException();
        }
        return routes() - before;
    }

    public int lift(int node) {
        checkNode(node);
        if (!nodes.get(node).isPlaced()) {
            throw new UnsupportedOperationException();
        }
        int before = routes();
        remove(node);
        return before - routes();
    }

    public int map() {
        for (int n = 0; n < nodes.size(); n++) {
            boolean placed = nodes.get(n).isPlaced();
            for (int time = 0; time < 32 && !placed; time++) {
                for (int cell = 0; cell < wide * high && !placed; cell++) {
                    placed = tryAt(n, cell, time) == '-';
                }
            }
            if (!placed) {
                break;
            }
        }
        return placedNodes().size();
    }

    public int cellOf(int node) {
        checkNode(node);
        if (!nodes.get(node).isPlaced()) {
            throw new NoSuchElementException();
        }
        return nodes.get(node).cell;
    }

    public int timeOf(int node) {
        cellOf(node);
        return nodes.get(node).time;
    }

    public int at(int cell, int rest) {
        checkCell(cell);
        checkRest(rest);
        for (int n = 0; n < nodes.size(); n++) {
            if (nodes.get(n).cell == cell && nodes.get(n).time % interval == rest) {
                return n;
            }
        }
        return -1;
    }

    public int routes() {
        int sum = 0;
        for (Node node : nodes) {
            for (String route : node.routes) {
                sum += route == null ? 0 : 1;
            }
        }
        return sum;
    }

    public int length(int node, int operand) {
        checkOperand(node, operand);
        String route = nodes.get(node).routes[operand];
        if (route == null) {
            throw new NoSuchElementException();
        }
        return route.length();
    }

    public char step(int node, int operand, int beat) {
        int length = length(node, operand);
        if (beat < 0 || beat >= length) {
            throw new NoSuchElementException();
        }
        return nodes.get(node).routes[operand].charAt(beat);
    }

    public int held(int cell, int rest) {
        checkCell(cell);
        checkRest(rest);
        int sum = 0;
        for (Use use : uses()) {
            sum += use.cell() == cell && use.letter() == '.' && restOf(use) == rest ? 1 : 0;
        }
        return sum;
    }

    public boolean isTaken(int cell, char way, int rest) {
        checkCell(cell);
        checkWire(cell, way);
        checkRest(rest);
        for (Use use : uses()) {
            if (use.cell() == cell && use.letter() == way && restOf(use) == rest) {
                return true;
            }
        }
        return false;
    }

    public int least() {
        int whole = wide * high - dead.size();
        if (nodes.isEmpty() || whole == 0) {
            throw new UnsupportedOperationException();
        }
        int most = 1;
        while (most * whole < nodes.size()) {
            most++;
        }
        for (int bank = 0; bank < 2; bank++) {
            int uses = 0;
            for (Node node : nodes) {
                uses += node.isMemory() && banks[node.array] == bank ? 1 : 0;
            }
            most = Math.max(most, uses);
        }
        for (int n = 0; n < nodes.size(); n++) {
            most = Math.max(most, ring(n, n, 0, 0, new HashSet<>()));
        }
        return most;
    }

    /** All rings from a node back to it, with their nodes and distances counted on the way. */
    private int ring(int start, int at, int count, int distances, Set<Integer> been) {
        if (at == start && count > 0) {
            int least = 1;
            while (count > distances * least) {
                least++;
            }
            return least;
        }
        if (!been.add(at)) {
            return 1;
        }
        int most = 1;
        for (Operand operand : nodes.get(at).operands) {
            most = Math.max(most,
                    ring(start, operand.source(), count + 1, distances + operand.distance(), been));
        }
        been.remove(at);
        return most;
    }

    public int run(int rounds) {
        if (rounds < 1 || rounds > 16) {
            throw new IllegalArgumentException();
        }
        if (nodes.isEmpty() || placedNodes().size() < nodes.size()) {
            throw new UnsupportedOperationException();
        }
        Set<Use> onWires = new HashSet<>(uses());
        onWires.removeIf(use -> use.letter() == '.');
        energy += (long) rounds * (nodes.size() + onWires.size());
        return runBeats(memory, rounds);
    }

    public long energy() {
        return energy;
    }

    public int would(int rounds, int array, int place) {
        if (rounds < 1 || rounds > 16) {
            throw new IllegalArgumentException();
        }
        get(array, place);
        int[][] copy = copyOfMemory();
        runRounds(copy, rounds);
        return copy[array][place];
    }

    public int number(int node, int round) {
        checkNode(node);
        if (round < 0 || round > 15) {
            throw new IllegalArgumentException();
        }
        return runRounds(copyOfMemory(), round + 1).get(node + " " + round);
    }

    public long checksum() {
        long sum = 7;
        for (int[] array : memory) {
            for (int number : array) {
                sum = sum * 31 + number;
            }
        }
        for (Node node : nodes) {
            if (node.isPlaced()) {
                sum = sum * 31 + (32 * node.cell + node.time);
            }
        }
        return sum;
    }

    public float share() {
        return (float) placedNodes().size() / (float) (wide * high * interval);
    }

    public double meanLength() {
        int sum = 0;
        for (Node node : nodes) {
            for (String route : node.routes) {
                sum += route == null ? 0 : route.length();
            }
        }
        if (routes() == 0) {
            throw new ArithmeticException();
        }
        return (double) sum / (double) routes();
    }

    public boolean isSound() {
        int[][] one = copyOfMemory();
        int[][] other = copyOfMemory();
        if (placedNodes().size() == nodes.size()) {
            runBeats(one, 16);
            runRounds(other, 16);
        }
        return java.util.Arrays.deepEquals(one, other);
    }

    private char tryAt(int n, int cell, int time) {
        Node node = nodes.get(n);
        if (node.isPlaced()) {
            return 'p';
        }
        if (dead.contains(cell)) {
            return 'd';
        }
        if (node.isMemory() && cell % wide != 0) {
            return 'e';
        }
        if (at(cell, time % interval) >= 0) {
            return 'c';
        }
        for (Node other : nodes) {
            if (node.isMemory() && other.isMemory() && other.isPlaced()
                    && banks[other.array] == banks[node.array]
                    && other.time % interval == time % interval) {
                return 'b';
            }
        }
        node.cell = cell;
        node.time = time;
        char letter = isOutOfOrder(n) ? 'm' : layAll(n);
        if (letter != '-') {
            remove(n);
        }
        return letter;
    }

    private boolean isOutOfOrder(int n) {
        for (int m = 0; m < nodes.size(); m++) {
            Node a = nodes.get(n);
            Node b = nodes.get(m);
            if (m == n || !a.isMemory() || !b.isMemory() || !b.isPlaced() || a.array != b.array
                    || a.kind == 'l' && b.kind == 'l') {
                continue;
            }
            for (int r = 0; r < 16; r++) {
                for (int q = 0; q < 16; q++) {
                    int beatA = a.time + r * interval;
                    int beatB = b.time + q * interval;
                    boolean firstIsA = r < q || r == q && n < m;
                    if (a.placeIn(r) == b.placeIn(q) && (firstIsA ? beatA >= beatB : beatB >= beatA)) {
                        return true;
                    }
                }
            }
        }
        return false;
    }

    /** The operands (as node and number) whose routes are due as the node is placed, in their order. */
    private List<int[]> dues(int n) {
        List<int[]> dues = new ArrayList<>();
        for (int o = 0; o < nodes.get(n).operands.size(); o++) {
            if (nodes.get(nodes.get(n).operands.get(o).source()).isPlaced()) {
                dues.add(new int[] {n, o});
            }
        }
        for (int m = 0; m < nodes.size(); m++) {
            for (int o = 0; o < nodes.get(m).operands.size(); o++) {
                if (m != n && nodes.get(m).isPlaced() && nodes.get(m).operands.get(o).source() == n) {
                    dues.add(new int[] {m, o});
                }
            }
        }
        return dues;
    }

    private char layAll(int n) {
        for (int[] due : dues(n)) {
            int beats = beatsOf(due[0], due[1]);
            if (beats < 0 || beats > 8) {
                return 'o';
            }
        }
        for (int[] due : dues(n)) {
            Operand operand = nodes.get(due[0]).operands.get(due[1]);
            String route = search(operand.source(), nodes.get(operand.source()).cell,
                    nodes.get(due[0]).cell, beatsOf(due[0], due[1]), uses(), "");
            if (route == null) {
                return 'r';
            }
            nodes.get(due[0]).routes[due[1]] = route;
        }
        return '-';
    }

    private int beatsOf(int n, int o) {
        Operand operand = nodes.get(n).operands.get(o);
        int begin = nodes.get(operand.source()).time + 1;
        int end = nodes.get(n).time + operand.distance() * interval;
        return end - begin;
    }

    private String search(int source, int at, int end, int beats, Set<Use> uses, String done) {
        int away = Math.abs(at % wide - end % wide) + Math.abs(at / wide - end / wide);
        int left = beats - done.length();
        if (away > left || left == 0) {
            return away > left ? null : done;
        }
        for (int l = 0; l < 5; l++) {
            char letter = LETTERS.charAt(l);
            if (l > 0 && (beside(at, letter) < 0 || dead.contains(beside(at, letter))
                    || cut.contains(at + "" + letter))) {
                continue;
            }
            Use use = new Use(source, done.length(), at, letter);
            boolean isNew = uses.add(use);
            String route = null;
            if (count(uses, use) <= (l == 0 ? registers : 1)) {
                route = search(source, beside(at, letter), end, beats, uses, done + letter);
            }
            if (isNew) {
                uses.remove(use);
            }
            if (route != null) {
                return route;
            }
        }
        return null;
    }

    private int count(Set<Use> uses, Use like) {
        int count = 0;
        for (Use use : uses) {
            count += use.cell() == like.cell() && use.letter() == like.letter()
                    && restOf(use) == restOf(like) ? 1 : 0;
        }
        return count;
    }

    private Set<Use> uses() {
        Set<Use> uses = new HashSet<>();
        for (int n = 0; n < nodes.size(); n++) {
            for (int o = 0; o < 3; o++) {
                String route = nodes.get(n).routes[o];
                for (int b = 0; route != null && b < route.length(); b++) {
                    uses.add(new Use(nodes.get(n).operands.get(o).source(), b, cellsOf(n, o).get(b),
                            route.charAt(b)));
                }
            }
        }
        return uses;
    }

    private int restOf(Use use) {
        return (nodes.get(use.source()).time + 1 + use.beat()) % interval;
    }

    private List<Integer> cellsOf(int n, int o) {
        List<Integer> cells = new ArrayList<>();
        cells.add(nodes.get(nodes.get(n).operands.get(o).source()).cell);
        for (char letter : nodes.get(n).routes[o].toCharArray()) {
            cells.add(beside(cells.get(cells.size() - 1), letter));
        }
        return cells;
    }

    private int beside(int cell, char letter) {
        int way = LETTERS.indexOf(letter);
        int x = cell % wide + DX[way];
        int y = cell / wide + DY[way];
        return x < 0 || x >= wide || y < 0 || y >= high ? -1 : y * wide + x;
    }

    private void remove(int n) {
        nodes.get(n).cell = -1;
        for (Node node : nodes) {
            for (int o = 0; o < node.operands.size(); o++) {
                if (node == nodes.get(n) || node.operands.get(o).source() == n) {
                    node.routes[o] = null;
                }
            }
        }
    }

    private int removeAll(Set<Integer> going) {
        for (int n : going) {
            remove(n);
        }
        return going.size();
    }

    private Set<Integer> placedNodes() {
        Set<Integer> placed = new HashSet<>();
        for (int n = 0; n < nodes.size(); n++) {
            if (nodes.get(n).isPlaced()) {
                placed.add(n);
            }
        }
        return placed;
    }

    private int[][] copyOfMemory() {
        int[][] copy = new int[4][];
        for (int a = 0; a < 4; a++) {
            copy[a] = memory[a].clone();
        }
        return copy;
    }

    private Map<String, Integer> runRounds(int[][] arrays, int rounds) {
        Map<String, Integer> numbers = new HashMap<>();
        for (int round = 0; round < rounds; round++) {
            for (int n = 0; n < nodes.size(); n++) {
                doNode(n, round, arrays, numbers);
            }
        }
        return numbers;
    }

    private int runBeats(int[][] arrays, int rounds) {
        List<int[]> all = new ArrayList<>();
        for (int n = 0; n < nodes.size(); n++) {
            for (int round = 0; round < rounds; round++) {
                int isStore = nodes.get(n).kind == 's' ? 1 : 0;
                all.add(new int[] {nodes.get(n).time + round * interval, isStore, n, round});
            }
        }
        all.sort(Comparator.<int[]>comparingInt(e -> e[0]).thenComparingInt(e -> e[1]));
        Map<String, Integer> numbers = new HashMap<>();
        int last = -1;
        for (int[] e : all) {
            doNode(e[2], e[3], arrays, numbers);
            last = e[0];
        }
        return last + 1;
    }

    private void doNode(int n, int round, int[][] arrays, Map<String, Integer> numbers) {
        Node node = nodes.get(n);
        int[] in = new int[3];
        for (int o = 0; o < node.operands.size(); o++) {
            int source = node.operands.get(o).source();
            int earlier = round - node.operands.get(o).distance();
            in[o] = earlier < 0 ? nodes.get(source).first : numbers.get(source + " " + earlier);
        }
        int number = switch (node.kind) {
            case 'l' -> arrays[node.array][node.placeIn(round)];
            case 's' -> in[0];
            case 'k' -> node.number;
            case 'i' -> round;
            case '+' -> in[0] + in[1];
            case '-' -> in[0] - in[1];
            case '*' -> in[0] * in[1];
            case 'm' -> Math.min(in[0], in[1]);
            case '<' -> in[0] < in[1] ? 1 : 0;
            default -> in[0] > 0 ? in[1] : in[2];
        };
        if (node.kind == 's') {
            arrays[node.array][node.placeIn(round)] = number;
        }
        numbers.put(n + " " + round, number);
    }

    private int add(char kind, int array, int stride, int offset, Operand... operands) {
        if (nodes.size() == 12) {
            throw new IllegalStateException();
        }
        Node node = new Node();
        node.kind = kind;
        node.array = array;
        node.stride = stride;
        node.offset = offset;
        node.operands.addAll(List.of(operands));
        nodes.add(node);
        return nodes.size() - 1;
    }

    private void checkCell(int cell) {
        if (cell < 0 || cell >= wide * high) {
            throw new IndexOutOfBoundsException();
        }
    }

    private void checkWire(int cell, char way) {
        if ("nesw".indexOf(way) < 0 || beside(cell, way) < 0) {
            throw new IllegalArgumentException();
        }
    }

    private void checkRest(int rest) {
        if (rest < 0 || rest >= interval) {
            throw new IllegalArgumentException();
        }
    }

    private void checkNode(int node) {
        if (node < 0 || node >= nodes.size()) {
            throw new IndexOutOfBoundsException();
        }
    }

    private void checkOperand(int node, int operand) {
        checkNode(node);
        if (operand < 0 || operand >= nodes.get(node).operands.size()) {
            throw new IndexOutOfBoundsException();
        }
    }

    private void checkSpot(int node, int cell, int time) {
        checkNode(node);
        checkCell(cell);
        if (time < 0 || time > 31) {
            throw new IllegalArgumentException();
        }
    }

    private void checkAim(int array, int stride, int offset) {
        if (array < 0 || array > 3 || stride < -3 || stride > 3 || offset < 0 || offset > 15) {
            throw new IllegalArgumentException();
        }
    }

    private void checkDistance(int distance, int low) {
        if (distance < low || distance > 3) {
            throw new IllegalArgumentException();
        }
    }
}
