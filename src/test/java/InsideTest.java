import java.lang.reflect.Field;
import java.lang.reflect.Method;

/**
 * What no calls can show: no run of calls is known behind which a mapping is not sound, or a load and a
 * store of one place are at one beat. So a state of that kind is put into the object's fields by hand.
 */
public final class InsideTest {
    private static final Check C = new Check();
    private static final int EAST = 2;
    private static final int SOUTH = 3;

    public static void main(String[] args) throws ReflectiveOperationException {
        loadsAheadOfStores();
        whereRoutesLead();
        inTheirBeats();
        wounds();
        registers();
        wires();
        C.end("InsideTest");
    }

    private static Object field(Object of, String name) throws ReflectiveOperationException {
        Field field = of.getClass().getDeclaredField(name);
        field.setAccessible(true);
        return field.get(of);
    }

    private static int[] row(Fabricmap x, String part, String name) throws ReflectiveOperationException {
        return (int[]) field(field(x, part), name);
    }

    private static void put(Fabricmap x, String name, Object value) throws ReflectiveOperationException {
        Object grid = field(x, "grid");
        Field field = grid.getClass().getDeclaredField(name);
        field.setAccessible(true);
        field.set(grid, value);
        Method find = grid.getClass().getDeclaredMethod("findOpen");
        find.setAccessible(true);
        find.invoke(grid);
    }

    private static void dueSound(String what, boolean due, Fabricmap x) {
        C.due(what, due, () -> x.isSound());
    }

    /** A store of 7 to the first place of the array 1, and a load (2) at its beat, whose number goes to a place. */
    private static Fabricmap oneBeat(int array, int place) {
        Fabricmap x = new Fabricmap();
        x.interval(8);
        x.set(1, 0, 5);
        x.bank(2, 1);
        x.constant(7);
        x.store(1, 0, 0, 0, 0);
        x.load(2, 0, 0);
        x.store(array, 1, place, 2, 0);
        x.place(0, 4, 0);
        x.place(1, 3, 2);
        x.place(2, 0, 2);
        x.place(3, 0, 3);
        return x;
    }

    private static void loadsAheadOfStores() throws ReflectiveOperationException {
        for (int spot : new int[] {0, 7, 15, 48, 63}) {
            int array = spot / 16;
            int place = spot % 16;
            Fabricmap x = oneBeat(array, place);
            dueSound("a load and a store of two arrays at one beat", true, x);
            row(x, "loop", "arrays")[2] = 1;
            C.due("the loop would load what it has stored", 7, () -> x.would(1, array, place));
            dueSound("a run of 16 rounds would store something else at " + spot, false, x);
            x.run(1);
            C.due("the loads of a beat ahead of its stores", "5 7", () -> x.get(array, place) + " " + x.get(1, 0));
        }
        Fabricmap y = oneBeat(0, 0);
        row(y, "loop", "arrays")[2] = 1;
        y.constant(1);
        dueSound("nothing is run if not all nodes are placed", true, y);
    }

    /** A round (0) in the cell 0 of 2 by 2, and a sum (1) of it in the cell 1, to which its number goes at once. */
    private static Fabricmap neighbours() {
        Fabricmap x = new Fabricmap();
        x.square(2, 2, 1);
        x.interval(8);
        x.round();
        x.two('+', 0, 0, 0, 0);
        x.place(0, 0, 0);
        x.place(1, 1, 2);
        dueSound("neighbours", true, x);
        return x;
    }

    private static void whereRoutesLead() throws ReflectiveOperationException {
        Fabricmap x = neighbours();
        row(x, "router", "paths")[4] = SOUTH;
        dueSound("the second route leads to another cell", false, x);
        row(x, "router", "paths")[4] = EAST;
        dueSound("it leads there again", true, x);
        row(x, "places", "cells")[1] = 3;
        dueSound("the node is in another cell", false, x);
        row(x, "places", "cells")[1] = 1;
        row(x, "places", "cells")[0] = 2;
        dueSound("its operand is in another cell", false, x);
        row(x, "places", "cells")[0] = 0;
        row(x, "router", "paths")[3] = 1;
        dueSound("the first route leaves the square", false, x);
        row(x, "router", "paths")[3] = EAST;
        dueSound("all is as it was", true, x);
    }

    private static void inTheirBeats() throws ReflectiveOperationException {
        Fabricmap x = neighbours();
        row(x, "places", "times")[1] = 3;
        dueSound("a beat too few", false, x);
        row(x, "places", "times")[1] = 1;
        dueSound("a beat too many", false, x);
        row(x, "places", "times")[1] = 2;
        row(x, "router", "lengths")[4] = -1;
        dueSound("a route is missing", false, x);
        row(x, "router", "lengths")[4] = 1;
        dueSound("it is there again", true, x);
        row(x, "places", "cells")[1] = -1;
        dueSound("a route to a node that is not placed", false, x);
        row(x, "places", "cells")[1] = 1;
        row(x, "loop", "distances")[3] = 1;
        dueSound("a round too few", false, x);
    }

    private static void wounds() throws ReflectiveOperationException {
        for (int cell = 0; cell < 4; cell++) {
            Fabricmap x = neighbours();
            put(x, "dead", 1 << cell);
            dueSound("dead: " + cell, cell > 1, x);
        }
        Fabricmap y = neighbours();
        y.lift(1);
        y.place(1, 0, 1);
        dueSound("a route of no beats", true, y);
        put(y, "dead", 1);
        dueSound("in a dead cell", false, y);
        put(y, "dead", 0);
        dueSound("in a whole one", true, y);
        row(y, "places", "cells")[1] = -1;
        dueSound("to a node that is not placed", false, y);
        Fabricmap z = neighbours();
        put(z, "cuts", cutAlone(1, 'w'));
        dueSound("cut, the other way", true, z);
        put(z, "cuts", cutAlone(0, 'e'));
        dueSound("cut", false, z);
    }

    /** The wires that are cut by a cut of one of them. */
    private static Object cutAlone(int cell, char way) throws ReflectiveOperationException {
        Fabricmap x = new Fabricmap();
        x.square(2, 2, 1);
        x.cut(cell, way);
        return field(field(x, "grid"), "cuts");
    }

    private static void registers() throws ReflectiveOperationException {
        Fabricmap x = neighbours();
        x.lift(1);
        x.place(1, 1, 3);
        dueSound("a number stays in a register", true, x);
        put(x, "registers", 0);
        dueSound("there is none", false, x);
        Fabricmap y = new Fabricmap();
        y.square(1, 1, 2);
        y.round();
        y.two('+', 0, 0, 0, 0);
        y.place(0, 0, 0);
        y.place(1, 0, 5);
        dueSound("two numbers by one rest", true, y);
        put(y, "registers", 1);
        dueSound("in one register", false, y);
    }

    private static void wires() throws ReflectiveOperationException {
        Fabricmap x = new Fabricmap();
        x.square(2, 1, 2);
        x.interval(4);
        x.constant(1);
        x.constant(2);
        x.two('-', 0, 0, 0, 0);
        x.two('-', 1, 0, 1, 0);
        x.place(0, 0, 0);
        x.place(1, 0, 1);
        x.place(2, 1, 3);
        x.place(3, 1, 4);
        C.due("one stays while the other one goes", ".e .e", () -> Scenes.route(x, 2, 0) + " " + Scenes.route(x, 3, 0));
        dueSound("two numbers along a wire, at two beats", true, x);
        row(x, "router", "paths")[9] = EAST;
        row(x, "router", "paths")[10] = EAST;
        dueSound("at one beat", false, x);
    }
}
