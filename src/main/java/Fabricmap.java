import java.util.NoSuchElementException;

/** Loops laid upon a square of small processors; DOC.md tells what each call answers. */
public final class Fabricmap {
    private static final int MOST_SIDE = 4;
    private static final int MOST_CELLS = 16;
    private static final int MOST_REGISTERS = 4;
    private static final int MOST_INTERVAL = 8;
    private static final int ARRAYS = 4;
    private static final int BANKS = 2;
    private static final int PLACES = 16;
    private static final int MOST_STRIDE = 3;
    private static final int MOST_NODES = 12;
    private static final int MOST_OPERANDS = 3;
    private static final int MOST_DISTANCE = 3;
    private static final int SLOTS = 36;
    private static final int TIMES = 32;
    private static final int MOST_BEATS = 8;
    private static final int MOST_ROUNDS = 16;
    private static final int NONE = -1;
    private static final char[] LETTERS = {'.', 'n', 'e', 's', 'w'};
    private static final int STAY = 0;
    private static final int NORTH = 1;
    private static final int EAST = 2;
    private static final int SOUTH = 3;
    private static final int WEST = 4;
    private static final char NOTHING = '-';

    private final Grid grid;
    private final Memory memory;
    private final Loop loop;
    private final Places places;
    private final Traffic traffic;
    private final Router router;
    private final Mapper mapper;
    private final Runner runner;
    private long spent;

    public Fabricmap() {
        grid = new Grid();
        grid.renew(3, 3, 2);
        memory = new Memory();
        loop = new Loop();
        places = new Places();
        traffic = new Traffic(grid);
        router = new Router(grid, loop, places, traffic);
        mapper = new Mapper(grid, memory, loop, places, router);
        runner = new Runner(memory, loop, places);
    }

    public int square(int wide, int high, int registers) throws IllegalArgumentException {
        if (!isWithin(wide, 1, MOST_SIDE) || !isWithin(high, 1, MOST_SIDE)
                || !isWithin(registers, 0, MOST_REGISTERS)) {
            throw new IllegalArgumentException("a number is out of range");
        }
        grid.renew(wide, high, registers);
        return mapper.takeAll();
    }

    public int interval(int interval) throws IllegalArgumentException {
        if (!isWithin(interval, 1, MOST_INTERVAL)) {
            throw new IllegalArgumentException("the interval is out of range");
        }
        int taken = mapper.takeAll();
        places.interval = interval;
        return taken;
    }

    public int kill(int cell) throws IndexOutOfBoundsException, UnsupportedOperationException {
        needCell(cell);
        if (grid.isDead(cell)) {
            throw new UnsupportedOperationException("the cell is dead");
        }
        int gone = mapper.leaveCell(cell);
        grid.dead |= 1 << cell;
        grid.findOpen();
        return gone;
    }

    public boolean heal(int cell) throws IndexOutOfBoundsException {
        needCell(cell);
        boolean was = grid.isDead(cell);
        grid.dead &= ~(1 << cell);
        grid.findOpen();
        return was;
    }

    public int cut(int cell, char way)
            throws IndexOutOfBoundsException, IllegalArgumentException, UnsupportedOperationException {
        needCell(cell);
        int number = needWire(cell, way);
        if (grid.isCut(cell, number)) {
            throw new UnsupportedOperationException("the wire is cut");
        }
        int gone = mapper.leaveWire(cell, number);
        grid.cuts |= Grid.wire(cell, number);
        grid.findOpen();
        return gone;
    }

    public boolean mend(int cell, char way) throws IndexOutOfBoundsException, IllegalArgumentException {
        needCell(cell);
        int number = needWire(cell, way);
        boolean was = grid.isCut(cell, number);
        grid.cuts &= ~Grid.wire(cell, number);
        grid.findOpen();
        return was;
    }

    public int bank(int array, int bank) throws IllegalArgumentException, UnsupportedOperationException {
        if (!isWithin(array, 0, ARRAYS - 1) || !isWithin(bank, 0, BANKS - 1)) {
            throw new IllegalArgumentException("there is no such array or bank");
        }
        if (mapper.isInUse(array)) {
            throw new UnsupportedOperationException("a load or store of the array is placed");
        }
        int before = memory.banks[array];
        memory.banks[array] = bank;
        return before;
    }

    public int set(int array, int place, int number) throws IllegalArgumentException {
        needPlace(array, place);
        int spot = Memory.spot(array, place);
        int before = memory.numbers[spot];
        memory.numbers[spot] = number;
        return before;
    }

    public int get(int array, int place) throws IllegalArgumentException {
        needPlace(array, place);
        return memory.numbers[Memory.spot(array, place)];
    }

    public int load(int array, int stride, int offset) throws IllegalArgumentException, IllegalStateException {
        needAim(array, stride, offset);
        needRoom();
        int node = loop.add('l', 0);
        loop.aim(node, array, stride, offset);
        return node;
    }

    public int store(int array, int stride, int offset, int node, int distance)
            throws IndexOutOfBoundsException, IllegalArgumentException, IllegalStateException {
        needNode(node);
        needAim(array, stride, offset);
        needDistance(distance, 0);
        needRoom();
        int added = loop.add('s', 1);
        loop.aim(added, array, stride, offset);
        loop.link(added, 0, node, distance);
        return added;
    }

    public int constant(int number) throws IllegalStateException {
        needRoom();
        int node = loop.add('k', 0);
        loop.constants[node] = number;
        return node;
    }

    public int round() throws IllegalStateException {
        needRoom();
        return loop.add('i', 0);
    }

    public int two(char kind, int one, int distance, int other, int far)
            throws IndexOutOfBoundsException, IllegalArgumentException, IllegalStateException {
        needNode(one);
        needNode(other);
        if (!Loop.isForTwo(kind)) {
            throw new IllegalArgumentException("there is no such kind");
        }
        needDistance(distance, 0);
        needDistance(far, 0);
        needRoom();
        int node = loop.add(kind, 2);
        loop.link(node, 0, one, distance);
        loop.link(node, 1, other, far);
        return node;
    }

    public int choice(int test, int one, int other) throws IndexOutOfBoundsException, IllegalStateException {
        needNode(test);
        needNode(one);
        needNode(other);
        needRoom();
        int node = loop.add('?', 3);
        loop.link(node, 0, test, 0);
        loop.link(node, 1, one, 0);
        loop.link(node, 2, other, 0);
        return node;
    }

    public int feed(int node, int operand, int other, int distance)
            throws IndexOutOfBoundsException, IllegalArgumentException, UnsupportedOperationException {
        needOperand(node, operand);
        needNode(other);
        needDistance(distance, 1);
        if (places.isPlaced(node)) {
            throw new UnsupportedOperationException("the node is placed");
        }
        int before = loop.sources[Loop.slot(node, operand)];
        loop.link(node, operand, other, distance);
        return before;
    }

    public int first(int node, int number) throws IndexOutOfBoundsException {
        needNode(node);
        int before = loop.firsts[node];
        loop.firsts[node] = number;
        return before;
    }

    public int clear() {
        int before = loop.count;
        mapper.takeAll();
        loop.count = 0;
        return before;
    }

    public int nodes() {
        return loop.count;
    }

    public char bars(int node, int cell, int time) throws IndexOutOfBoundsException, IllegalArgumentException {
        needSpot(node, cell, time);
        return mapper.barrier(node, cell, time);
    }

    public int place(int node, int cell, int time)
            throws IndexOutOfBoundsException, IllegalArgumentException, UnsupportedOperationException {
        needSpot(node, cell, time);
        int laid = mapper.placeAt(node, cell, time);
        if (laid < 0) {
            throw new UnsupportedOperationException("something bars the node");
        }
        return laid;
    }

    public int lift(int node) throws IndexOutOfBoundsException, UnsupportedOperationException {
        needNode(node);
        if (!places.isPlaced(node)) {
            throw new UnsupportedOperationException("the node is not placed");
        }
        int before = router.amount();
        mapper.take(1 << node);
        return before - router.amount();
    }

    public int map() {
        boolean goesOn = true;
        for (int node = 0; node < loop.count && goesOn; node++) {
            goesOn = places.isPlaced(node) || mapper.placeSoonest(node);
        }
        return places.amount();
    }

    public int cellOf(int node) throws IndexOutOfBoundsException, NoSuchElementException {
        needPlaced(node);
        return places.cells[node];
    }

    public int timeOf(int node) throws IndexOutOfBoundsException, NoSuchElementException {
        needPlaced(node);
        return places.times[node];
    }

    public int at(int cell, int rest) throws IndexOutOfBoundsException, IllegalArgumentException {
        needCell(cell);
        needRest(rest);
        return places.nodeAt(cell, rest);
    }

    public int routes() {
        return router.amount();
    }

    public int length(int node, int operand) throws IndexOutOfBoundsException, NoSuchElementException {
        needOperand(node, operand);
        int beats = router.lengths[Loop.slot(node, operand)];
        if (beats < 0) {
            throw new NoSuchElementException("there is no route");
        }
        return beats;
    }

    public char step(int node, int operand, int beat) throws IndexOutOfBoundsException, NoSuchElementException {
        needOperand(node, operand);
        int slot = Loop.slot(node, operand);
        if (beat < 0 || beat >= router.lengths[slot]) {
            throw new NoSuchElementException("there is no such route or beat");
        }
        return LETTERS[router.way(slot, beat)];
    }

    public int held(int cell, int rest) throws IndexOutOfBoundsException, IllegalArgumentException {
        needCell(cell);
        needRest(rest);
        return traffic.held[Traffic.index(cell, rest)];
    }

    public boolean isTaken(int cell, char way, int rest)
            throws IndexOutOfBoundsException, IllegalArgumentException {
        needCell(cell);
        int number = needWire(cell, way);
        needRest(rest);
        return (traffic.taken[rest] & Grid.wire(cell, number)) != 0L;
    }

    public int least() throws UnsupportedOperationException {
        int whole = grid.cells() - Integer.bitCount(grid.dead);
        if (loop.count == 0 || whole < 1) {
            throw new UnsupportedOperationException("there are no nodes or no whole cells");
        }
        int byCells = (loop.count + whole - 1) / whole;
        int byBanks = Math.max(mapper.usesOf(0), mapper.usesOf(1));
        return Math.max(Math.max(byCells, byBanks), loop.leastByRings());
    }

    public int run(int rounds) throws IllegalArgumentException, UnsupportedOperationException {
        if (!isWithin(rounds, 1, MOST_ROUNDS)) {
            throw new IllegalArgumentException("the rounds are out of range");
        }
        if (loop.count == 0 || !isAllPlaced()) {
            throw new UnsupportedOperationException("there are no nodes, or not all are placed");
        }
        spent += (long) rounds * (loop.count + traffic.wires());
        return runner.doBeats(memory.numbers, rounds);
    }

    public long energy() {
        return spent;
    }

    public int would(int rounds, int array, int place) throws IllegalArgumentException {
        if (!isWithin(rounds, 1, MOST_ROUNDS)) {
            throw new IllegalArgumentException("the rounds are out of range");
        }
        needPlace(array, place);
        return runner.rehearse(rounds)[Memory.spot(array, place)];
    }

    public int number(int node, int round) throws IndexOutOfBoundsException, IllegalArgumentException {
        needNode(node);
        if (!isWithin(round, 0, MOST_ROUNDS - 1)) {
            throw new IllegalArgumentException("the round is out of range");
        }
        runner.rehearse(round + 1);
        return runner.numbers[Runner.entry(node, round)];
    }

    public long checksum() {
        long sum = 7L;
        for (int number : memory.numbers) {
            sum = 31L * sum + number;
        }
        for (int node = 0; node < loop.count; node++) {
            if (places.isPlaced(node)) {
                sum = 31L * sum + 32L * places.cells[node] + places.times[node];
            }
        }
        return sum;
    }

    public float share() {
        int all = grid.cells() * places.interval;
        return all < 1 ? 0f : (float) places.amount() / (float) all;
    }

    public double meanLength() throws ArithmeticException {
        int amount = router.amount();
        if (amount < 1) {
            throw new ArithmeticException("there are no routes");
        }
        return (double) router.beatsOfAll() / (double) amount;
    }

    public boolean isSound() {
        return router.isWhole() && router.layAgain() && (!isAllPlaced() || runner.isAgreed());
    }

    private boolean isAllPlaced() {
        return places.amount() == loop.count;
    }

    private static boolean isWithin(int number, int low, int high) {
        return number >= low && number <= high;
    }

    private void needCell(int cell) {
        if (!isWithin(cell, 0, grid.cells() - 1)) {
            throw new IndexOutOfBoundsException("there is no such cell");
        }
    }

    private int needWire(int cell, char way) {
        int number = Grid.wayOf(way);
        if (number < 0 || grid.beside(cell, number) < 0) {
            throw new IllegalArgumentException("there is no such way, or no wire there");
        }
        return number;
    }

    private void needRest(int rest) {
        if (!isWithin(rest, 0, places.interval - 1)) {
            throw new IllegalArgumentException("the rest is not below the interval");
        }
    }

    private void needPlace(int array, int place) {
        if (!isWithin(array, 0, ARRAYS - 1) || !isWithin(place, 0, PLACES - 1)) {
            throw new IllegalArgumentException("there is no such array or place");
        }
    }

    private void needAim(int array, int stride, int offset) {
        if (!isWithin(array, 0, ARRAYS - 1) || !isWithin(stride, -MOST_STRIDE, MOST_STRIDE)
                || !isWithin(offset, 0, PLACES - 1)) {
            throw new IllegalArgumentException("a number is out of range");
        }
    }

    private void needDistance(int distance, int low) {
        if (!isWithin(distance, low, MOST_DISTANCE)) {
            throw new IllegalArgumentException("a distance is out of range");
        }
    }

    private void needRoom() {
        if (loop.count >= MOST_NODES) {
            throw new IllegalStateException("there are 12 nodes");
        }
    }

    private void needNode(int node) {
        if (!isWithin(node, 0, loop.count - 1)) {
            throw new IndexOutOfBoundsException("there is no such node");
        }
    }

    private void needOperand(int node, int operand) {
        needNode(node);
        if (!isWithin(operand, 0, loop.widths[node] - 1)) {
            throw new IndexOutOfBoundsException("there is no such operand");
        }
    }

    private void needSpot(int node, int cell, int time) {
        needNode(node);
        needCell(cell);
        if (!isWithin(time, 0, TIMES - 1)) {
            throw new IllegalArgumentException("the time is out of range");
        }
    }

    private void needPlaced(int node) {
        needNode(node);
        if (!places.isPlaced(node)) {
            throw new NoSuchElementException("the node is not placed");
        }
    }

    /** The cells and wires. A set of cells is an int, a set of wires a long, with a bit for each. */
    private static final class Grid {
        int wide;
        int high;
        int registers;
        int dead;
        long cuts;
        /** The wires that are whole and join whole cells. */
        long open;

        void renew(int wide, int high, int registers) {
            this.wide = wide;
            this.high = high;
            this.registers = registers;
            dead = 0;
            cuts = 0L;
            findOpen();
        }

        void findOpen() {
            open = 0L;
            for (int cell = 0; cell < cells(); cell++) {
                for (int way = NORTH; way <= WEST; way++) {
                    int next = beside(cell, way);
                    if (next >= 0 && !isDead(cell) && !isDead(next)) {
                        open |= wire(cell, way);
                    }
                }
            }
            open &= ~cuts;
        }

        int cells() {
            return wide * high;
        }

        boolean isDead(int cell) {
            return (dead >> cell & 1) != 0;
        }

        boolean isCut(int cell, int way) {
            return (cuts & wire(cell, way)) != 0L;
        }

        boolean isEdge(int cell) {
            return column(cell) == 0;
        }

        private int column(int cell) {
            return wide < 1 ? 0 : cell % wide;
        }

        /** The next cell that way, NONE if there is no wire. */
        int beside(int cell, int way) {
            int next = NONE;
            if (way == STAY) {
                next = cell;
            } else if (way == NORTH) {
                next = cell - wide;
            } else if (way == EAST && column(cell) < wide - 1) {
                next = cell + 1;
            } else if (way == SOUTH) {
                next = cell + wide;
            } else if (way == WEST && column(cell) > 0) {
                next = cell - 1;
            }
            return next < 0 || next >= cells() ? NONE : next;
        }

        /** The wires of one way stand side by side, so that they can be shifted like a set of cells. */
        static long wire(int cell, int way) {
            return 1L << ((way - NORTH) * MOST_CELLS + cell);
        }

        static int cellsOf(long wires, int way) {
            return (int) (wires >>> ((way - NORTH) * MOST_CELLS)) & 0xFFFF;
        }

        static int wayOf(char letter) {
            for (int way = NORTH; way < LETTERS.length; way++) {
                if (LETTERS[way] == letter) {
                    return way;
                }
            }
            return NONE;
        }
    }

    /** The arrays, one behind the other, and their banks. */
    private static final class Memory {
        final int[] numbers = new int[ARRAYS * PLACES];
        final int[] banks = new int[ARRAYS];

        static int spot(int array, int place) {
            return array * PLACES + place;
        }
    }

    /** The nodes. An operand of a node has a slot, three for each node. */
    private static final class Loop {
        int count;
        final char[] kinds = new char[MOST_NODES];
        final int[] widths = new int[MOST_NODES];
        final int[] arrays = new int[MOST_NODES];
        final int[] strides = new int[MOST_NODES];
        final int[] offsets = new int[MOST_NODES];
        final int[] constants = new int[MOST_NODES];
        final int[] firsts = new int[MOST_NODES];
        final int[] sources = new int[SLOTS];
        final int[] distances = new int[SLOTS];
        private final int[] depths = new int[MOST_NODES];

        static int slot(int node, int operand) {
            return node * MOST_OPERANDS + operand;
        }

        static boolean isForTwo(char kind) {
            return kind == '+' || kind == '-' || kind == '*' || kind == 'm' || kind == '<';
        }

        int add(char kind, int width) {
            int node = count;
            count++;
            kinds[node] = kind;
            widths[node] = width;
            firsts[node] = 0;
            return node;
        }

        void aim(int node, int array, int stride, int offset) {
            arrays[node] = array;
            strides[node] = stride;
            offsets[node] = offset;
        }

        void link(int node, int operand, int source, int distance) {
            sources[slot(node, operand)] = source;
            distances[slot(node, operand)] = distance;
        }

        boolean isStore(int node) {
            return kinds[node] == 's';
        }

        boolean usesMemory(int node) {
            return kinds[node] == 'l' || isStore(node);
        }

        int placeIn(int node, int round) {
            return Math.floorMod(strides[node] * round + offsets[node], PLACES);
        }

        boolean mustKeepOrder(int node, int other) {
            return usesMemory(node) && usesMemory(other) && arrays[node] == arrays[other]
                    && (isStore(node) || isStore(other));
        }

        /** Whether the node has a place that the other one has so many rounds before it. */
        boolean meets(int node, int other, int gap) {
            int last = Math.min(MOST_ROUNDS, MOST_ROUNDS + gap);
            for (int round = Math.max(0, gap); round < last; round++) {
                if (placeIn(node, round) == placeIn(other, round - gap)) {
                    return true;
                }
            }
            return false;
        }

        /** A ring has 12 nodes and a distance at most and at least, so that 12 is always enough. */
        int leastByRings() {
            for (int interval = 1; interval < MOST_NODES; interval++) {
                if (allowsRings(interval)) {
                    return interval;
                }
            }
            return MOST_NODES;
        }

        /** Paths that still grow when they have more steps than there are nodes go round too long a ring. */
        private boolean allowsRings(int interval) {
            for (int node = 0; node < count; node++) {
                depths[node] = 0;
            }
            for (int pass = 0; pass <= count; pass++) {
                if (!deepen(interval)) {
                    return true;
                }
            }
            return false;
        }

        private boolean deepen(int interval) {
            boolean grows = false;
            for (int node = 0; node < count; node++) {
                for (int operand = 0; operand < widths[node]; operand++) {
                    int slot = slot(node, operand);
                    int depth = depths[sources[slot]] + 1 - distances[slot] * interval;
                    if (depth > depths[node]) {
                        depths[node] = depth;
                        grows = true;
                    }
                }
            }
            return grows;
        }
    }

    /** Where and when each node is done. */
    private static final class Places {
        int interval = 2;
        final int[] cells = new int[MOST_NODES];
        final int[] times = new int[MOST_NODES];

        Places() {
            for (int node = 0; node < MOST_NODES; node++) {
                cells[node] = NONE;
            }
        }

        boolean isPlaced(int node) {
            return cells[node] != NONE;
        }

        int rest(int beat) {
            return interval < 1 ? 0 : beat % interval;
        }

        int amount() {
            int amount = 0;
            for (int node = 0; node < MOST_NODES; node++) {
                if (isPlaced(node)) {
                    amount++;
                }
            }
            return amount;
        }

        int nodeAt(int cell, int rest) {
            for (int node = 0; node < MOST_NODES; node++) {
                if (cells[node] == cell && rest(times[node]) == rest) {
                    return node;
                }
            }
            return NONE;
        }
    }

    /**
     * What is taken by each rest. The number of a node at a beat of its way has a key,
     * under which is kept where it is then, so that its other routes share that.
     */
    private static final class Traffic {
        private final Grid grid;
        final int[] held = new int[MOST_CELLS * MOST_INTERVAL];
        private final int[] full = new int[MOST_INTERVAL];
        final long[] taken = new long[MOST_INTERVAL];
        private final int[] stays = new int[MOST_NODES * MOST_BEATS];
        private final long[] goes = new long[MOST_NODES * MOST_BEATS];

        Traffic(Grid grid) {
            this.grid = grid;
        }

        static int key(int node, int beat) {
            return node * MOST_BEATS + beat;
        }

        static int index(int cell, int rest) {
            return cell * MOST_INTERVAL + rest;
        }

        void empty() {
            for (int index = 0; index < held.length; index++) {
                held[index] = 0;
            }
            for (int rest = 0; rest < MOST_INTERVAL; rest++) {
                full[rest] = grid.registers < 1 ? ~0 : 0;
                taken[rest] = 0L;
            }
            for (int key = 0; key < stays.length; key++) {
                stays[key] = 0;
                goes[key] = 0L;
            }
        }

        int freeCells(int key, int rest) {
            return stays[key] | ~full[rest];
        }

        long freeWires(int key, int rest) {
            return goes[key] | grid.open & ~taken[rest];
        }

        boolean isFree(int key, int rest, int cell, int way) {
            if (way == STAY) {
                return (freeCells(key, rest) >> cell & 1) != 0;
            }
            return (freeWires(key, rest) & Grid.wire(cell, way)) != 0L;
        }

        /** Answers whether the number was not there already, by another route. */
        boolean take(int key, int rest, int cell, int way) {
            boolean fresh;
            if (way == STAY) {
                fresh = (stays[key] >> cell & 1) == 0;
                stays[key] |= 1 << cell;
                held[index(cell, rest)] += fresh ? 1 : 0;
                full[rest] |= held[index(cell, rest)] < grid.registers ? 0 : 1 << cell;
            } else {
                long wire = Grid.wire(cell, way);
                fresh = (goes[key] & wire) == 0L;
                goes[key] |= wire;
                taken[rest] |= wire;
            }
            return fresh;
        }

        /** Gives back what take answered to be fresh. */
        void release(int key, int rest, int cell, int way) {
            if (way == STAY) {
                stays[key] &= ~(1 << cell);
                held[index(cell, rest)]--;
                full[rest] &= ~(1 << cell);
            } else {
                long wire = Grid.wire(cell, way);
                goes[key] &= ~wire;
                taken[rest] &= ~wire;
            }
        }

        int wires() {
            int sum = 0;
            for (long wires : taken) {
                sum += Long.bitCount(wires);
            }
            return sum;
        }
    }

    /** The routes by their slots, and the search for new ones. */
    private static final class Router {
        private final Grid grid;
        private final Loop loop;
        private final Places places;
        private final Traffic traffic;
        final int[] lengths = new int[SLOTS];
        /** Three bits for each beat. */
        private final int[] paths = new int[SLOTS];
        /** A bit for each beat in which the route is the first one of its number there. */
        private final int[] freshes = new int[SLOTS];
        /** The cells from which the search can come to its end, by the beats; it alone is searched there. */
        private final int[] hopes = new int[MOST_BEATS + 1];
        private int beats;
        private int path;
        private int fresh;
        private int source;

        Router(Grid grid, Loop loop, Places places, Traffic traffic) {
            this.grid = grid;
            this.loop = loop;
            this.places = places;
            this.traffic = traffic;
            for (int slot = 0; slot < SLOTS; slot++) {
                lengths[slot] = NONE;
            }
        }

        int amount() {
            int amount = 0;
            for (int slot = 0; slot < SLOTS; slot++) {
                if (lengths[slot] >= 0) {
                    amount++;
                }
            }
            return amount;
        }

        int beatsOfAll() {
            int sum = 0;
            for (int slot = 0; slot < SLOTS; slot++) {
                sum += Math.max(0, lengths[slot]);
            }
            return sum;
        }

        int way(int slot, int beat) {
            return paths[slot] >> 3 * beat & 7;
        }

        private int restOf(int node, int beat) {
            return places.rest(places.times[node] + 1 + beat);
        }

        /** How many beats the route needs, both of its nodes being placed. */
        int beatsFor(int slot) {
            int node = slot / MOST_OPERANDS;
            int begin = places.times[loop.sources[slot]] + 1;
            return places.times[node] + loop.distances[slot] * places.interval - begin;
        }

        /** Lays the first route that is free, if there is one. */
        boolean lay(int slot) {
            source = loop.sources[slot];
            beats = beatsFor(slot);
            path = 0;
            fresh = 0;
            int start = places.cells[source];
            if (beats < 0 || beats > MOST_BEATS) {
                return false;
            }
            hope(places.cells[slot / MOST_OPERANDS]);
            if ((hopes[0] >> start & 1) == 0 || !walk(this, 0, start)) {
                return false;
            }
            lengths[slot] = beats;
            paths[slot] = path;
            freshes[slot] = fresh;
            return true;
        }

        private void hope(int end) {
            hopes[beats] = 1 << end;
            for (int beat = beats - 1; beat >= 0; beat--) {
                int key = Traffic.key(source, beat);
                int rest = restOf(source, beat);
                int after = hopes[beat + 1];
                long wires = traffic.freeWires(key, rest);
                hopes[beat] = (after & traffic.freeCells(key, rest))
                        | (after << grid.wide & Grid.cellsOf(wires, NORTH))
                        | (after >> 1 & Grid.cellsOf(wires, EAST))
                        | (after >> grid.wide & Grid.cellsOf(wires, SOUTH))
                        | (after << 1 & Grid.cellsOf(wires, WEST));
            }
        }

        /** Hope does not know what the route itself takes, at another beat of one rest: so ways are tried. */
        private static boolean walk(Router router, int beat, int cell) {
            if (beat >= router.beats || beat >= MOST_BEATS) {
                return beat == router.beats;
            }
            int key = Traffic.key(router.source, beat);
            int rest = router.restOf(router.source, beat);
            for (int way = STAY; way <= WEST; way++) {
                int next = router.grid.beside(cell, way);
                if (next < 0 || (router.hopes[beat + 1] >> next & 1) == 0
                        || !router.traffic.isFree(key, rest, cell, way)) {
                    continue;
                }
                boolean isFresh = router.traffic.take(key, rest, cell, way);
                if (walk(router, beat + 1, next)) {
                    router.path |= way << 3 * beat;
                    router.fresh |= isFresh ? 1 << beat : 0;
                    return true;
                }
                if (isFresh) {
                    router.traffic.release(key, rest, cell, way);
                }
            }
            return false;
        }

        /** Takes back the route laid last: what it was the first one to take is shared by none that stays. */
        void unlay(int slot) {
            int node = loop.sources[slot];
            int cell = places.cells[node];
            for (int beat = 0; beat < lengths[slot]; beat++) {
                int way = way(slot, beat);
                if ((freshes[slot] >> beat & 1) != 0) {
                    traffic.release(Traffic.key(node, beat), restOf(node, beat), cell, way);
                }
                cell = grid.beside(cell, way);
            }
            lengths[slot] = NONE;
        }

        /** Lets the routes go that are from or to the node; what they took stays until all are laid again. */
        void forget(int node) {
            for (int slot = 0; slot < SLOTS; slot++) {
                if (lengths[slot] >= 0 && (slot / MOST_OPERANDS == node || loop.sources[slot] == node)) {
                    lengths[slot] = NONE;
                }
            }
        }

        /** Takes all anew that the routes take; answers whether nothing is taken too often. */
        boolean layAgain() {
            boolean fits = true;
            traffic.empty();
            for (int slot = 0; slot < SLOTS; slot++) {
                if (lengths[slot] >= 0 && !retake(slot)) {
                    fits = false;
                }
            }
            return fits;
        }

        private boolean retake(int slot) {
            boolean fits = true;
            int node = loop.sources[slot];
            int cell = places.cells[node];
            for (int beat = 0; beat < lengths[slot] && cell >= 0; beat++) {
                int key = Traffic.key(node, beat);
                int rest = restOf(node, beat);
                int way = way(slot, beat);
                fits = fits && traffic.isFree(key, rest, cell, way);
                traffic.take(key, rest, cell, way);
                cell = grid.beside(cell, way);
            }
            return fits;
        }

        boolean goesThrough(int slot, int cell) {
            int at = places.cells[loop.sources[slot]];
            boolean meets = lengths[slot] >= 0 && at == cell;
            for (int beat = 0; beat < lengths[slot] && !meets; beat++) {
                at = grid.beside(at, way(slot, beat));
                meets = at == cell;
            }
            return meets;
        }

        boolean goesAlong(int slot, int cell, int way) {
            int at = places.cells[loop.sources[slot]];
            boolean meets = false;
            for (int beat = 0; beat < lengths[slot] && !meets; beat++) {
                meets = at == cell && way(slot, beat) == way;
                at = grid.beside(at, way(slot, beat));
            }
            return meets;
        }

        /** Whether all routes that are due are there, and lead where they must. */
        boolean isWhole() {
            for (int node = 0; node < loop.count; node++) {
                for (int operand = 0; operand < loop.widths[node]; operand++) {
                    int slot = Loop.slot(node, operand);
                    boolean isDue = places.isPlaced(node) && places.isPlaced(loop.sources[slot]);
                    if (isDue ? !leads(slot) : lengths[slot] >= 0) {
                        return false;
                    }
                }
            }
            return true;
        }

        private boolean leads(int slot) {
            int cell = places.cells[loop.sources[slot]];
            boolean whole = lengths[slot] == beatsFor(slot) && !grid.isDead(cell);
            for (int beat = 0; beat < lengths[slot] && whole; beat++) {
                int way = way(slot, beat);
                whole = way == STAY || (grid.open & Grid.wire(cell, way)) != 0L;
                cell = whole ? grid.beside(cell, way) : NONE;
            }
            return whole && cell == places.cells[slot / MOST_OPERANDS];
        }
    }

    /** Places nodes and takes them away. */
    private static final class Mapper {
        private final Grid grid;
        private final Memory memory;
        private final Loop loop;
        private final Places places;
        private final Router router;
        /** The routes to lay with the node at hand, in their order. */
        private final int[] dues = new int[SLOTS];
        private int dueCount;
        private int orderLow;
        private int orderHigh;
        private int routeLow;
        private int routeHigh;

        Mapper(Grid grid, Memory memory, Loop loop, Places places, Router router) {
            this.grid = grid;
            this.memory = memory;
            this.loop = loop;
            this.places = places;
            this.router = router;
        }

        /** Finds what is the same for the node wherever it is placed: its routes, and its times. */
        private void prepare(int node) {
            listDues(node);
            routeLow = 0;
            routeHigh = TIMES - 1;
            for (int due = 0; due < dueCount; due++) {
                keepBeats(node, dues[due]);
            }
            orderLow = 0;
            orderHigh = TIMES - 1;
            for (int other = 0; other < loop.count; other++) {
                if (other != node && places.isPlaced(other) && loop.mustKeepOrder(node, other)) {
                    keepOrder(node, other);
                }
            }
        }

        private void listDues(int node) {
            dueCount = 0;
            for (int operand = 0; operand < loop.widths[node]; operand++) {
                int slot = Loop.slot(node, operand);
                if (loop.sources[slot] == node || places.isPlaced(loop.sources[slot])) {
                    addDue(slot);
                }
            }
            for (int other = 0; other < loop.count; other++) {
                for (int operand = 0; operand < loop.widths[other]; operand++) {
                    int slot = Loop.slot(other, operand);
                    if (other != node && places.isPlaced(other) && loop.sources[slot] == node) {
                        addDue(slot);
                    }
                }
            }
        }

        private void addDue(int slot) {
            if (dueCount < SLOTS) {
                dues[dueCount] = slot;
                dueCount++;
            }
        }

        private void keepBeats(int node, int slot) {
            int later = loop.distances[slot] * places.interval - 1;
            int user = slot / MOST_OPERANDS;
            int source = loop.sources[slot];
            if (user == source) {
                routeHigh = later > MOST_BEATS ? NONE : routeHigh;
            } else if (user == node) {
                routeLow = Math.max(routeLow, places.times[source] - later);
                routeHigh = Math.min(routeHigh, places.times[source] - later + MOST_BEATS);
            } else {
                routeLow = Math.max(routeLow, places.times[user] + later - MOST_BEATS);
                routeHigh = Math.min(routeHigh, places.times[user] + later);
            }
        }

        private void keepOrder(int node, int other) {
            for (int gap = 1 - MOST_ROUNDS; gap < MOST_ROUNDS; gap++) {
                if (!loop.meets(node, other, gap)) {
                    continue;
                }
                int meeting = places.times[other] - gap * places.interval;
                if (gap < 0 || gap == 0 && node < other) {
                    orderHigh = Math.min(orderHigh, meeting - 1);
                } else {
                    orderLow = Math.max(orderLow, meeting + 1);
                }
            }
        }

        /** What bars the prepared node, but for its routes. */
        private char obstacle(int node, int cell, int time) {
            int rest = places.rest(time);
            if (grid.isDead(cell)) {
                return 'd';
            }
            if (loop.usesMemory(node) && !grid.isEdge(cell)) {
                return 'e';
            }
            if (places.nodeAt(cell, rest) != NONE) {
                return 'c';
            }
            if (loop.usesMemory(node) && isBankUsed(memory.banks[loop.arrays[node]], rest)) {
                return 'b';
            }
            if (time < orderLow || time > orderHigh) {
                return 'm';
            }
            return time < routeLow || time > routeHigh ? 'o' : NOTHING;
        }

        private boolean isBankUsed(int bank, int rest) {
            for (int node = 0; node < loop.count; node++) {
                if (places.isPlaced(node) && places.rest(places.times[node]) == rest
                        && loop.usesMemory(node) && memory.banks[loop.arrays[node]] == bank) {
                    return true;
                }
            }
            return false;
        }

        char barrier(int node, int cell, int time) {
            if (places.isPlaced(node)) {
                return 'p';
            }
            prepare(node);
            char barrier = obstacle(node, cell, time);
            if (barrier != NOTHING) {
                return barrier;
            }
            if (!settle(node, cell, time)) {
                return 'r';
            }
            withdraw(node, dueCount);
            return NOTHING;
        }

        /** Answers how many routes are laid, NONE if something bars the node. */
        int placeAt(int node, int cell, int time) {
            if (places.isPlaced(node)) {
                return NONE;
            }
            prepare(node);
            boolean placed = obstacle(node, cell, time) == NOTHING && settle(node, cell, time);
            return placed ? dueCount : NONE;
        }

        /** Places the prepared node if all of its routes can be laid. */
        private boolean settle(int node, int cell, int time) {
            places.cells[node] = cell;
            places.times[node] = time;
            for (int due = 0; due < dueCount; due++) {
                if (!router.lay(dues[due])) {
                    withdraw(node, due);
                    return false;
                }
            }
            return true;
        }

        private void withdraw(int node, int laid) {
            for (int due = laid - 1; due >= 0; due--) {
                router.unlay(dues[due]);
            }
            places.cells[node] = NONE;
        }

        /** Answers whether there was a time and a cell at which nothing bars the node. */
        boolean placeSoonest(int node) {
            prepare(node);
            int last = Math.min(orderHigh, routeHigh);
            for (int time = Math.max(orderLow, routeLow); time <= last; time++) {
                for (int cell = 0; cell < grid.cells(); cell++) {
                    if (obstacle(node, cell, time) == NOTHING && settle(node, cell, time)) {
                        return true;
                    }
                }
            }
            return false;
        }

        int leaveCell(int cell) {
            int going = 0;
            for (int node = 0; node < loop.count; node++) {
                if (places.cells[node] == cell) {
                    going |= 1 << node;
                }
            }
            for (int slot = 0; slot < SLOTS; slot++) {
                if (router.goesThrough(slot, cell)) {
                    going |= 1 << slot / MOST_OPERANDS;
                }
            }
            return take(going);
        }

        int leaveWire(int cell, int way) {
            int going = 0;
            for (int slot = 0; slot < SLOTS; slot++) {
                if (router.goesAlong(slot, cell, way)) {
                    going |= 1 << slot / MOST_OPERANDS;
                }
            }
            return take(going);
        }

        int takeAll() {
            int going = 0;
            for (int node = 0; node < loop.count; node++) {
                if (places.isPlaced(node)) {
                    going |= 1 << node;
                }
            }
            return take(going);
        }

        /** Takes a set of nodes away, a bit for each. */
        int take(int going) {
            for (int node = 0; node < loop.count; node++) {
                if ((going >> node & 1) != 0) {
                    router.forget(node);
                    places.cells[node] = NONE;
                }
            }
            router.layAgain();
            return Integer.bitCount(going);
        }

        boolean isInUse(int array) {
            for (int node = 0; node < loop.count; node++) {
                if (places.isPlaced(node) && loop.usesMemory(node) && loop.arrays[node] == array) {
                    return true;
                }
            }
            return false;
        }

        int usesOf(int bank) {
            int uses = 0;
            for (int node = 0; node < loop.count; node++) {
                if (loop.usesMemory(node) && memory.banks[loop.arrays[node]] == bank) {
                    uses++;
                }
            }
            return uses;
        }
    }

    /** Does the loop, round by round or beat by beat. */
    private static final class Runner {
        private final Memory memory;
        private final Loop loop;
        private final Places places;
        /** The numbers of each node in each round done last. */
        final int[] numbers = new int[MOST_NODES * MOST_ROUNDS];
        private final int[] rehearsed = new int[ARRAYS * PLACES];
        private final int[] beaten = new int[ARRAYS * PLACES];

        Runner(Memory memory, Loop loop, Places places) {
            this.memory = memory;
            this.loop = loop;
            this.places = places;
        }

        static int entry(int node, int round) {
            return node * MOST_ROUNDS + round;
        }

        /** Does rounds one by one upon a copy of the arrays, and answers the copy. */
        int[] rehearse(int rounds) {
            System.arraycopy(memory.numbers, 0, rehearsed, 0, rehearsed.length);
            for (int round = 0; round < rounds; round++) {
                for (int node = 0; node < loop.count; node++) {
                    doNode(node, round, rehearsed);
                }
            }
            return rehearsed;
        }

        /** Answers how many beats that takes. */
        int doBeats(int[] arrays, int rounds) {
            int beats = 0;
            for (int node = 0; node < loop.count; node++) {
                beats = Math.max(beats, places.times[node] + (rounds - 1) * places.interval + 1);
            }
            for (int beat = 0; beat < beats; beat++) {
                doBeat(beat, rounds, false, arrays);
                doBeat(beat, rounds, true, arrays);
            }
            return beats;
        }

        private void doBeat(int beat, int rounds, boolean stores, int[] arrays) {
            for (int node = 0; node < loop.count; node++) {
                int since = beat - places.times[node];
                if (loop.isStore(node) == stores && since >= 0 && places.rest(since) == 0) {
                    int round = places.interval < 1 ? 0 : since / places.interval;
                    if (round < rounds) {
                        doNode(node, round, arrays);
                    }
                }
            }
        }

        boolean isAgreed() {
            System.arraycopy(memory.numbers, 0, beaten, 0, beaten.length);
            doBeats(beaten, MOST_ROUNDS);
            rehearse(MOST_ROUNDS);
            for (int spot = 0; spot < beaten.length; spot++) {
                if (beaten[spot] != rehearsed[spot]) {
                    return false;
                }
            }
            return true;
        }

        private void doNode(int node, int round, int[] arrays) {
            char kind = loop.kinds[node];
            int number;
            if (loop.usesMemory(node)) {
                int spot = Memory.spot(loop.arrays[node], loop.placeIn(node, round));
                if (kind == 's') {
                    arrays[spot] = operand(node, 0, round);
                }
                number = arrays[spot];
            } else if (kind == 'k') {
                number = loop.constants[node];
            } else if (kind == 'i') {
                number = round;
            } else if (kind == '?') {
                number = operand(node, operand(node, 0, round) > 0 ? 1 : 2, round);
            } else {
                number = combine(kind, operand(node, 0, round), operand(node, 1, round));
            }
            numbers[entry(node, round)] = number;
        }

        private int operand(int node, int operand, int round) {
            int slot = Loop.slot(node, operand);
            int source = loop.sources[slot];
            int earlier = round - loop.distances[slot];
            return earlier < 0 ? loop.firsts[source] : numbers[entry(source, earlier)];
        }

        private static int combine(char kind, int one, int other) {
            if (kind == '+') {
                return one + other;
            }
            if (kind == '-') {
                return one - other;
            }
            if (kind == '*') {
                return one * other;
            }
            if (kind == 'm') {
                return Math.min(one, other);
            }
            return one < other ? 1 : 0;
        }
    }
}
