import java.util.Arrays;
import java.util.NoSuchElementException;

/** Promises 13 to 23: patterns, their matches, and walks. */
public final class PatternTest {
    private static final Class<IllegalArgumentException> ILLEGAL = IllegalArgumentException.class;
    private static final Class<IllegalStateException> STATE = IllegalStateException.class;
    private static final Class<IndexOutOfBoundsException> BOUNDS = IndexOutOfBoundsException.class;
    private static final Class<NoSuchElementException> NO_SUCH = NoSuchElementException.class;
    private static final Class<UnsupportedOperationException> REFUSED =
            UnsupportedOperationException.class;

    private PatternTest() { }

    public static void main(String[] args) {
        stepsAreTyped();
        stepsAreWiped();
        withoutSteps();
        nodesAreAsked();
        nodesAreAskedOfBoth();
        withoutRepeats();
        leastNumbers();
        numbersOfRepeats();
        directions();
        oneMatchHoweverParted();
        twoStepsAtOnce();
        edgesAndNodesOnce();
        loops();
        endsOfMatches();
        seenThroughViews();
        exceptionsOfQuestions();
        shortestOnes();
        edgesOfMatches();
        rowsInOrder();
        refusedBeyond3000();
        walksAreOpened();
        walksGoOn();
        walksEnd();
        walksKeepTheirMoment();
        walksAsAtOnce();
        walksAreNotRefused();
        Check.end();
    }

    private static GristGraph ofNodes(int count) {
        GristGraph x = new GristGraph();
        for (int i = 0; i < count; i++) {
            x.node(i % 4, i);
        }
        return x;
    }

    private static void typed(GristGraph x, int kind, char direction, int least, int most) {
        x.step(kind, direction, least, most, -1, -999);
    }

    private static void stepsAreTyped() {
        GristGraph x = new GristGraph();
        Check.same("13 first", x.step(-1, 'f', 0, 0, -1, -999), 1);
        Check.same("13 second", x.step(3, 'b', 4, 4, 3, 999), 2);
        Check.fails("13 kind -2", ILLEGAL, () -> x.step(-2, 'f', 0, 1, -1, 0));
        Check.fails("13 kind 4", ILLEGAL, () -> x.step(4, 'f', 0, 1, -1, 0));
        Check.fails("13 direction", ILLEGAL, () -> x.step(0, 'o', 0, 1, -1, 0));
        Check.fails("13 least -1", ILLEGAL, () -> x.step(0, 'f', -1, 1, -1, 0));
        Check.fails("13 least 5", ILLEGAL, () -> x.step(0, 'f', 5, 5, -1, 0));
        Check.fails("13 most 5", ILLEGAL, () -> x.step(0, 'f', 0, 5, -1, 0));
        Check.fails("13 most less", ILLEGAL, () -> x.step(0, 'f', 2, 1, -1, 0));
        Check.fails("13 node kind 4", ILLEGAL, () -> x.step(0, 'f', 0, 1, 4, 0));
        Check.fails("13 node kind -2", ILLEGAL, () -> x.step(0, 'f', 0, 1, -2, 0));
        Check.fails("13 value 1000", ILLEGAL, () -> x.step(0, 'f', 0, 1, -1, 1000));
        Check.fails("13 value -1000", ILLEGAL, () -> x.step(0, 'f', 0, 1, -1, -1000));
        Check.same("13 third", x.step(0, 'f', 0, 1, -1, 0), 3);
        Check.same("13 fourth", x.step(0, 'f', 0, 1, -1, 0), 4);
        Check.fails("13 fifth", STATE, () -> x.step(0, 'f', 0, 1, -1, 0));
        Check.fails("13 out of range first", ILLEGAL, () -> x.step(0, 'x', 0, 1, -1, 0));
    }

    private static void stepsAreWiped() {
        GristGraph x = new GristGraph();
        typed(x, 0, 'f', 1, 1);
        typed(x, 0, 'f', 1, 1);
        Check.same("14 two", x.wipe(), 2);
        Check.same("14 none", x.wipe(), 0);
        Check.same("14 typed anew", x.step(0, 'f', 1, 1, -1, 0), 1);
    }

    private static void withoutSteps() {
        GristGraph x = ofNodes(2);
        x.edge(0, 0, 1, 1);
        Check.same("15 the empty row", x.matches('e', 0, -1), 1);
        Check.same("15 to itself", x.matches('n', 0, 0), 1);
        Check.same("15 to another one", x.matches('n', 0, 1), 0);
        Check.same("16 empty", x.shortest('e', 0, 0), 0);
        Check.same("17 empty", x.allShortest('e', 0, 0), 1);
        Check.fails("18 no place", NO_SUCH, () -> x.matchAt('e', 0, 0, 0));
    }

    private static void nodesAreAsked() {
        GristGraph x = ofNodes(4);
        x.edge(0, 0, 1, 1);
        x.edge(0, 0, 2, 1);
        x.edge(1, 0, 3, 1);
        x.step(-1, 'f', 1, 1, 2, -999);
        Check.same("15 of a kind", x.matches('e', 0, -1), 1);
        Check.same("15 that node", x.matches('e', 0, 2), 1);
        x.wipe();
        x.step(-1, 'f', 1, 1, -1, 2);
        Check.same("15 of a least value", x.matches('e', 0, -1), 2);
        x.set(1, 2);
        Check.same("15 just the value", x.matches('e', 0, -1), 3);
        x.wipe();
        x.step(0, 'f', 1, 1, -1, 2);
        Check.same("15 of a kind of edges", x.matches('e', 0, -1), 2);
    }

    /** "asks of the node at its end a kind, or -1 for any, and a least value" */
    private static void nodesAreAskedOfBoth() {
        GristGraph x = new GristGraph();
        x.node(0, 0);
        x.node(2, 9);
        x.node(2, 10);
        x.node(3, 11);
        x.node(2, -999);
        for (int i = 1; i < 5; i++) {
            x.edge(i % 2, 0, i, 1);
        }
        x.step(-1, 'f', 1, 1, 2, 10);
        Check.same("15 kind and value", x.matches('e', 0, -1), 1);
        Check.same("18 that one", x.matchAt('e', 0, 0, 0), 1);
        x.wipe();
        x.step(-1, 'f', 1, 1, -1, 10);
        Check.same("15 any kind", x.matches('e', 0, -1), 2);
        x.wipe();
        x.step(-1, 'f', 1, 1, 2, -999);
        Check.same("15 any value", x.matches('e', 0, -1), 3);
        x.wipe();
        x.step(-1, 'f', 1, 1, 2, -998);
        Check.same("15 but the least", x.matches('e', 0, -1), 2);
        x.wipe();
        x.step(0, 'f', 1, 1, 2, 10);
        Check.same("15 kinds of both", x.matches('e', 0, -1), 1);
        x.wipe();
        x.step(1, 'f', 1, 1, 2, 10);
        Check.same("15 not so", x.matches('e', 0, -1), 0);
        x.wipe();
        // Only the node at the end of a step is asked, not those between its repeats.
        x.edge(0, 1, 3, 1);
        x.step(-1, 'f', 2, 2, 3, 11);
        Check.same("15 between repeats none is asked", x.matches('e', 0, -1), 1);
    }

    private static void withoutRepeats() {
        GristGraph x = ofNodes(3);
        x.edge(0, 0, 1, 1);
        x.edge(0, 1, 2, 1);
        x.step(0, 'f', 0, 1, 1, -999);
        Check.same("15 the node ahead is not as asked", x.matches('e', 0, 0), 0);
        Check.same("15 one repeat", x.matches('e', 0, -1), 1);
        Check.same("15 from node 1 without repeats", x.matches('e', 1, -1), 1);
        Check.same("16 without repeats", x.shortest('e', 1, -1), 0);
        x.step(0, 'f', 0, 1, 2, -999);
        Check.same("15 both steps", x.matches('e', 0, -1), 1);
        Check.same("16 both steps", x.shortest('e', 0, -1), 2);
        Check.same("15 the second one only", x.matches('e', 1, -1), 1);
        x.wipe();
        x.step(0, 'f', 0, 0, 0, -999);
        Check.same("15 no repeats at all", x.matches('e', 0, -1), 1);
        Check.same("15 no repeats, other kind", x.matches('e', 1, -1), 0);
    }

    private static void leastNumbers() {
        GristGraph x = ofNodes(5);
        for (int i = 0; i < 4; i++) {
            x.edge(0, i, i + 1, 1);
        }
        typed(x, 0, 'f', 2, 3);
        Check.same("15 two or three", x.matches('n', 0, -1), 2);
        Check.same("15 one", x.matches('n', 0, 1), 0);
        Check.same("15 two", x.matches('n', 0, 2), 1);
        Check.same("15 four", x.matches('n', 0, 4), 0);
        typed(x, 0, 'f', 1, 1);
        Check.same("15 three or four", x.matches('n', 0, -1), 2);
        Check.same("16 three", x.shortest('n', 0, -1), 3);
        x.wipe();
        typed(x, 0, 'f', 4, 4);
        Check.same("15 four repeats", x.matches('n', 0, 4), 1);
        Check.fails("16 none", NO_SUCH, () -> x.shortest('n', 1, -1));
    }

    /** Each least and greatest number on a line of five edges: the lengths between them match. */
    private static void numbersOfRepeats() {
        GristGraph x = ofNodes(6);
        for (int i = 0; i < 5; i++) {
            x.edge(0, i, i + 1, 1);
        }
        for (int least = 0; least <= 4; least++) {
            for (int most = least; most <= 4; most++) {
                x.wipe();
                typed(x, 0, 'f', least, most);
                for (int to = 0; to < 6; to++) {
                    Check.same("15 " + least + " to " + most + " repeats, to " + to,
                            x.matches('n', 0, to), to >= least && to <= most ? 1 : 0);
                }
            }
        }
    }

    private static void directions() {
        GristGraph x = ofNodes(3);
        x.edge(0, 0, 1, 1);
        x.edge(0, 2, 1, 1);
        typed(x, 0, 'f', 1, 1);
        Check.same("15 f", x.matches('e', 1, -1), 0);
        x.wipe();
        typed(x, 0, 'b', 1, 1);
        Check.same("15 b", x.matches('e', 1, -1), 2);
        Check.same("15 b from the first node", x.matches('e', 0, -1), 0);
        x.wipe();
        typed(x, 0, 'f', 1, 1);
        typed(x, 0, 'b', 1, 1);
        Check.same("15 f and b", x.matches('e', 0, 2), 1);
        Check.same("15 not back on the same edge", x.matches('e', 0, 0), 0);
    }

    private static void oneMatchHoweverParted() {
        GristGraph x = ofNodes(3);
        x.edge(0, 0, 1, 1);
        x.edge(0, 1, 2, 1);
        typed(x, 0, 'f', 0, 2);
        typed(x, -1, 'f', 0, 2);
        Check.same("15 each row once", x.matches('e', 0, -1), 3);
        x.wipe();
        // A loop goes either way: it is one edge and one match.
        x.edge(1, 0, 0, 1);
        typed(x, 1, 'f', 0, 1);
        typed(x, 1, 'b', 0, 1);
        Check.same("15 a loop once", x.matches('e', 0, -1), 2);
    }

    /** Behind one edge both the first step and the second one go on. */
    private static void twoStepsAtOnce() {
        GristGraph x = ofNodes(4);
        x.edge(0, 0, 1, 1);
        x.edge(0, 1, 2, 1);
        x.edge(1, 1, 3, 1);
        x.edge(1, 2, 3, 1);
        x.edge(0, 3, 0, 1);
        typed(x, 0, 'f', 1, 2);
        typed(x, 1, 'f', 1, 1);
        Check.same("15 both", x.matches('e', 0, -1), 2);
        Check.same("18 the longer one first", x.matchAt('e', 0, 0, 2), 3);
        Check.same("18 then the shorter one", x.matchAt('e', 0, 1, 1), 2);
    }

    private static void edgesAndNodesOnce() {
        GristGraph x = ofNodes(2);
        x.edge(0, 0, 1, 1);
        x.edge(0, 1, 0, 1);
        x.edge(0, 0, 1, 1);
        typed(x, 0, 'f', 0, 4);
        // Rows from 0: none, 0, 01, 012, 2, 21, 210.
        Check.same("15 by edges", x.matches('e', 0, -1), 7);
        Check.same("15 by edges, back", x.matches('e', 0, 0), 3);
        // By nodes: none, 0, 2.
        Check.same("15 by nodes", x.matches('n', 0, -1), 3);
        Check.same("15 by nodes, that from which it goes", x.matches('n', 0, 0), 1);
        GristGraph y = ofNodes(4);
        y.edge(0, 0, 1, 1);
        y.edge(0, 1, 2, 1);
        y.edge(0, 2, 1, 1);
        y.edge(0, 2, 3, 1);
        y.edge(0, 1, 3, 1);
        typed(y, 0, 'f', 0, 4);
        // By edges: none, 0, 01, 012, 0124, 013, 04. By nodes not 012 and 0124.
        Check.same("15 by edges, over a node again", y.matches('e', 0, -1), 7);
        Check.same("15 by nodes, not over one again", y.matches('n', 0, -1), 5);
        Check.same("15 by edges, to a node again", y.matches('e', 0, 1), 2);
        Check.same("15 by nodes, to it once", y.matches('n', 0, 1), 1);
        Check.same("15 by nodes, on two ways to one", y.matches('n', 0, 3), 2);
        y.edge(0, 1, 1, 1);
        Check.same("15 by edges, a loop on the way", y.matches('e', 0, 1), 5);
        Check.same("15 by nodes, no loop on the way", y.matches('n', 0, 1), 1);
        GristGraph z = ofNodes(3);
        z.edge(0, 1, 1, 1);
        z.edge(0, 0, 1, 1);
        z.edge(0, 1, 2, 1);
        typed(z, 0, 'f', 0, 4);
        // By edges: none, 1, 10, 102, 12. By nodes not 10 and 102.
        Check.same("15 by edges, a loop ahead of all", z.matches('e', 0, -1), 5);
        Check.same("15 by nodes, no loop ahead of all", z.matches('n', 0, -1), 3);
        // Round a ring, from wherever it goes.
        GristGraph w = ofNodes(14);
        for (int i = 0; i < 14; i++) {
            w.edge(0, i, (i + 1) % 14, 1);
            w.edge(0, (i + 1) % 14, i, 1);
        }
        typed(w, 0, 'f', 2, 2);
        for (int i = 0; i < 14; i++) {
            Check.same("15 by edges, back to " + i, w.matches('e', i, i), 2);
            Check.same("15 by nodes, not back to " + i, w.matches('n', i, i), 0);
            Check.same("15 by nodes, on from " + i, w.matches('n', i, -1), 2);
            Check.same("15 by nodes, on over " + i, w.matches('n', i, (i + 2) % 14), 1);
        }
    }

    private static void loops() {
        GristGraph x = ofNodes(1);
        x.edge(0, 0, 0, 1);
        x.edge(0, 0, 0, 1);
        typed(x, 0, 'b', 1, 4);
        Check.same("15 loops by edges", x.matches('e', 0, -1), 4);
        Check.same("15 loops by nodes", x.matches('n', 0, -1), 0);
    }

    private static void endsOfMatches() {
        GristGraph x = ofNodes(4);
        x.edge(0, 0, 1, 1);
        x.edge(0, 0, 2, 1);
        x.edge(0, 1, 3, 1);
        x.edge(0, 2, 3, 1);
        typed(x, 0, 'f', 0, 4);
        Check.same("15 all", x.matches('e', 0, -1), 5);
        Check.same("15 to 3", x.matches('e', 0, 3), 2);
        Check.same("15 to 0", x.matches('e', 0, 0), 1);
        Check.same("15 from 3", x.matches('e', 3, 0), 0);
    }

    private static void seenThroughViews() {
        GristGraph x = ofNodes(4);
        x.edge(0, 0, 1, 1);
        x.edge(1, 0, 2, 1);
        x.edge(0, 2, 3, 1);
        typed(x, -1, 'f', 1, 4);
        x.view(15, 1);
        x.view(13, 15);
        Check.same("15 without a view", x.matches('e', 0, -1), 3);
        x.through(0);
        Check.same("15 kinds of edges", x.matches('e', 0, -1), 1);
        x.through(1);
        Check.same("15 kinds of nodes", x.matches('e', 0, -1), 2);
        Check.fails("15 no such node there", BOUNDS, () -> x.matches('e', 1, -1));
        Check.fails("15 no such end there", BOUNDS, () -> x.matches('e', 0, 1));
        Check.fails("16 no such node there", BOUNDS, () -> x.shortest('e', 1, -1));
        Check.fails("17 no such node there", BOUNDS, () -> x.allShortest('e', 1, -1));
        Check.fails("18 no such node there", BOUNDS, () -> x.matchAt('e', 1, 0, 0));
        Check.fails("19 no such node there", BOUNDS, () -> x.open('e', 1));
    }

    private static void exceptionsOfQuestions() {
        GristGraph x = ofNodes(2);
        Check.fails("15 from", BOUNDS, () -> x.matches('x', 2, -1));
        Check.fails("15 to", BOUNDS, () -> x.matches('x', 0, 2));
        Check.fails("15 to below", BOUNDS, () -> x.matches('x', 0, -2));
        Check.fails("15 way", ILLEGAL, () -> x.matches('f', 0, -1));
        Check.fails("16 from", BOUNDS, () -> x.shortest('x', 2, -1));
        Check.fails("16 to", BOUNDS, () -> x.shortest('x', 0, 2));
        Check.fails("16 way", ILLEGAL, () -> x.shortest('f', 0, -1));
        Check.fails("17 from", BOUNDS, () -> x.allShortest('x', -1, -1));
        Check.fails("17 to", BOUNDS, () -> x.allShortest('x', 0, 14));
        Check.fails("17 way", ILLEGAL, () -> x.allShortest('f', 0, -1));
        Check.fails("18 from", BOUNDS, () -> x.matchAt('x', 2, 0, 0));
        Check.fails("18 way", ILLEGAL, () -> x.matchAt('x', 0, 9, 9));
    }

    private static void shortestOnes() {
        GristGraph x = ofNodes(4);
        x.edge(0, 0, 1, 1);
        x.edge(0, 1, 3, 1);
        x.edge(0, 0, 2, 1);
        x.edge(0, 2, 3, 1);
        x.edge(1, 1, 2, 1);
        typed(x, -1, 'f', 1, 4);
        Check.same("16 to 3", x.shortest('e', 0, 3), 2);
        Check.same("17 to 3", x.allShortest('e', 0, 3), 2);
        Check.same("15 to 3", x.matches('e', 0, 3), 3);
        Check.same("16 to any", x.shortest('e', 0, -1), 1);
        Check.same("17 to any", x.allShortest('e', 0, -1), 2);
        Check.fails("16 without a match", NO_SUCH, () -> x.shortest('e', 3, -1));
        Check.same("17 without a match", x.allShortest('e', 3, -1), 0);
        Check.same("17 back without a match", x.allShortest('n', 0, 0), 0);
        // Longer ones are ahead of the shortest in order, and behind it.
        GristGraph y = ofNodes(3);
        y.edge(0, 0, 1, 1);
        y.edge(0, 1, 2, 1);
        y.edge(0, 0, 2, 1);
        y.edge(0, 0, 1, 1);
        typed(y, -1, 'f', 1, 4);
        Check.same("15 three to 2", y.matches('e', 0, 2), 3);
        Check.same("16 the one in the midst", y.shortest('e', 0, 2), 1);
        Check.same("17 it alone", y.allShortest('e', 0, 2), 1);
        y.edge(0, 0, 2, 1);
        Check.same("17 with a last one", y.allShortest('e', 0, 2), 2);
        y.dropEdge(2);
        y.dropEdge(4);
        Check.same("16 without them", y.shortest('e', 0, 2), 2);
        Check.same("17 without them", y.allShortest('e', 0, 2), 2);
    }

    private static void edgesOfMatches() {
        GristGraph x = ofNodes(4);
        x.edge(0, 1, 3, 1);
        x.edge(0, 0, 2, 1);
        x.edge(0, 0, 1, 1);
        x.edge(0, 2, 1, 1);
        typed(x, 0, 'f', 1, 4);
        // In order: 1, 13, 130, 2, 20.
        int[][] due = {{1}, {1, 3}, {1, 3, 0}, {2}, {2, 0}};
        Check.same("15 all", x.matches('e', 0, -1), due.length);
        for (int i = 0; i < due.length; i++) {
            for (int place = 0; place < due[i].length; place++) {
                Check.same("18 edge", x.matchAt('e', 0, i, place), due[i][place]);
            }
            int match = i;
            int size = due[i].length;
            Check.fails("18 no such place", NO_SUCH, () -> x.matchAt('e', 0, match, size));
        }
        Check.fails("18 no such match", NO_SUCH, () -> x.matchAt('e', 0, 5, 0));
        Check.fails("18 match below", NO_SUCH, () -> x.matchAt('e', 0, -1, 0));
        Check.fails("18 place below", NO_SUCH, () -> x.matchAt('e', 0, 0, -1));
        x.wipe();
        typed(x, 0, 'f', 0, 1);
        Check.fails("18 the empty one is first", NO_SUCH, () -> x.matchAt('e', 0, 0, 0));
        Check.same("18 behind the empty one", x.matchAt('e', 0, 1, 0), 1);
    }

    /** By the numbers of edges, whether one digit or two, and the shorter row ahead. */
    private static void rowsInOrder() {
        GristGraph x = ofNodes(2);
        for (int i = 0; i < 40; i++) {
            x.edge(i == 2 || i == 10 || i == 33 || i == 39 ? 1 : 0, i % 2, 1 - i % 2, 1);
        }
        typed(x, 1, 'f', 0, 2);
        int[][] due = {{}, {2}, {2, 33}, {2, 39}, {10}, {10, 33}, {10, 39}};
        Check.same("15 rows", x.matches('e', 0, -1), due.length);
        x.open('e', 0);
        for (int i = 0; i < due.length; i++) {
            Check.same("20 row " + i, x.goOn(0, 1), 'f');
            for (int place = 0; place < due[i].length; place++) {
                Check.same("18 in order", x.matchAt('e', 0, i, place), due[i][place]);
                Check.same("22 in order", x.foundAt(0, place), due[i][place]);
            }
        }
        Check.same("20 none is left", x.goOn(0, 1), 'e');
    }

    /** Rungs of parallel edges from node 0 on: 1 + 9 + 18 + 198 + 2772 rows go up them. */
    private static GristGraph ladder() {
        GristGraph x = ofNodes(7);
        int[] rungs = {9, 2, 11, 14};
        for (int i = 0; i < rungs.length; i++) {
            for (int j = 0; j < rungs[i]; j++) {
                x.edge(0, i, i + 1, 1);
            }
        }
        return x;
    }

    private static void refusedBeyond3000() {
        GristGraph x = ladder();
        typed(x, 0, 'f', 4, 4);
        Check.same("15 2998 rows", x.matches('n', 0, -1), 2772);
        x.edge(0, 0, 5, 1);
        x.edge(0, 0, 5, 1);
        Check.same("15 3000 rows", x.matches('n', 0, -1), 2772);
        Check.same("18 the last of them", x.matchAt('n', 0, 2771, 3), 35);
        Check.same("34 3000 rows", x.watch('n', 0), 0);
        x.edge(0, 5, 6, 1);
        Check.fails("15 refused", REFUSED, () -> x.matches('n', 0, -1));
        Check.fails("15 refused by edges", REFUSED, () -> x.matches('e', 0, -1));
        Check.fails("15 refused to a node without a match", REFUSED, () -> x.matches('n', 0, 0));
        Check.fails("15 a node first", BOUNDS, () -> x.matches('n', 0, 7));
        Check.fails("15 a way first", ILLEGAL, () -> x.matches('x', 0, 5));
        Check.fails("16 refused", REFUSED, () -> x.shortest('n', 0, -1));
        Check.fails("16 refused ahead of none", REFUSED, () -> x.shortest('n', 0, 0));
        Check.fails("17 refused", REFUSED, () -> x.allShortest('n', 0, -1));
        Check.fails("18 refused", REFUSED, () -> x.matchAt('n', 0, 0, 0));
        Check.fails("18 refused ahead of none", REFUSED, () -> x.matchAt('n', 0, -1, 0));
        Check.fails("34 refused", REFUSED, () -> x.watch('n', 0));
        Check.same("15 from another node", x.matches('n', 1, -1), 0);
        x.dropEdge(38);
        x.edge(0, 0, 6, 1);
        Check.fails("15 3001 rows", REFUSED, () -> x.matches('n', 0, -1));
        x.view(15, 15);
        x.through(0);
        Check.fails("15 3001 rows through a view", REFUSED, () -> x.matches('n', 0, -1));
    }

    private static void walksAreOpened() {
        GristGraph x = ofNodes(2);
        Check.fails("19 no node", BOUNDS, () -> x.open('x', 2));
        Check.fails("19 no way", ILLEGAL, () -> x.open('x', 0));
        for (int i = 0; i < 4; i++) {
            Check.same("19 walk", x.open(i % 2 == 0 ? 'e' : 'n', 1), i);
        }
        Check.fails("19 fifth", STATE, () -> x.open('e', 0));
        Check.fails("19 way first", ILLEGAL, () -> x.open('o', 0));
        Check.fails("20 no walk", BOUNDS, () -> x.goOn(4, 0));
        Check.fails("20 below", BOUNDS, () -> x.goOn(-1, 1));
        Check.fails("20 no steps", ILLEGAL, () -> x.goOn(0, 0));
        Check.fails("20 201 steps", ILLEGAL, () -> x.goOn(0, 201));
        Check.fails("21 no walk", BOUNDS, () -> x.found(4));
        Check.fails("22 no walk", BOUNDS, () -> x.foundAt(4, 0));
        Check.fails("22 none found", NO_SUCH, () -> x.foundAt(0, 0));
        Check.fails("23 no walk", BOUNDS, () -> x.steps(-1));
        Check.same("20 200 steps, the empty row", x.goOn(0, 200), 'f');
        Check.fails("22 the empty row has no place", NO_SUCH, () -> x.foundAt(0, 0));
        Check.same("21 the empty row counts", x.found(0), 1);
        Check.same("23 without a step", x.steps(0), 0);
        Check.same("20 none left", x.goOn(0, 1), 'e');
    }

    private static void walksGoOn() {
        GristGraph x = ofNodes(4);
        x.edge(0, 0, 1, 1);
        x.edge(0, 1, 2, 1);
        x.edge(0, 2, 3, 1);
        x.edge(0, 0, 3, 1);
        x.edge(0, 3, 0, 1);
        x.step(0, 'f', 1, 3, 3, -999);
        x.open('n', 0);
        // Rows: 0, 01, 012 found, 3 found; by nodes none goes on.
        Check.same("20 pauses", x.goOn(0, 1), 'p');
        Check.same("23 one", x.steps(0), 1);
        Check.same("20 pauses again", x.goOn(0, 1), 'p');
        Check.same("21 none yet", x.found(0), 0);
        Check.fails("22 none yet", NO_SUCH, () -> x.foundAt(0, 0));
        Check.same("20 finds at the third", x.goOn(0, 200), 'f');
        Check.same("23 three", x.steps(0), 3);
        Check.same("22 first", x.foundAt(0, 0), 0);
        Check.same("22 last", x.foundAt(0, 2), 2);
        Check.fails("22 no such place", NO_SUCH, () -> x.foundAt(0, 3));
        Check.fails("22 place below", NO_SUCH, () -> x.foundAt(0, -1));
        Check.same("20 finds at its last step", x.goOn(0, 1), 'f');
        Check.same("22 of the last match", x.foundAt(0, 0), 3);
        Check.fails("22 it is shorter", NO_SUCH, () -> x.foundAt(0, 1));
        Check.same("20 ended", x.goOn(0, 5), 'e');
        Check.same("22 still the last one", x.foundAt(0, 0), 3);
        Check.same("21 two", x.found(0), 2);
        Check.same("23 four", x.steps(0), 4);
    }

    private static void walksEnd() {
        GristGraph x = ofNodes(3);
        x.edge(0, 0, 1, 1);
        x.edge(0, 1, 2, 1);
        x.step(0, 'f', 1, 2, 0, -999);
        x.open('n', 0);
        x.open('n', 0);
        x.open('e', 2);
        Check.same("20 pauses while one is left", x.goOn(0, 1), 'p');
        Check.same("20 tells the end as soon as it is so", x.goOn(0, 1), 'e');
        Check.same("23 two", x.steps(0), 2);
        Check.same("20 ended", x.goOn(0, 1), 'e');
        Check.same("23 no more", x.steps(0), 2);
        Check.same("20 just the steps told", x.goOn(1, 2), 'e');
        Check.same("20 no row at all", x.goOn(2, 1), 'e');
        Check.same("23 none", x.steps(2), 0);
        x.wipe();
        typed(x, 0, 'f', 0, 1);
        x.open('e', 1);
        Check.same("20 the empty row first", x.goOn(3, 1), 'f');
        Check.same("20 then the row", x.goOn(3, 1), 'f');
        Check.same("22 its edge", x.foundAt(3, 0), 1);
        Check.same("20 the end behind a match", x.goOn(3, 1), 'e');
        Check.same("21 both", x.found(3), 2);
        Check.same("23 one step", x.steps(3), 1);
    }

    private static void walksKeepTheirMoment() {
        GristGraph x = ofNodes(3);
        x.edge(0, 0, 1, 1);
        x.edge(1, 1, 2, 1);
        x.step(-1, 'f', 1, 2, -1, 1);
        x.view(15, 1);
        x.open('e', 0);
        x.through(0);
        x.open('e', 0);
        x.through(-1);
        x.begin();
        x.use(0);
        x.edge(0, 0, 2, 1);
        x.open('e', 0);
        x.abort(0);
        x.set(1, -5);
        x.set(2, -5);
        x.wipe();
        Check.same("20 in the graph of its moment", x.goOn(0, 9), 'f');
        x.dropNode(1);
        Check.same("20 with dropped edges", x.goOn(0, 9), 'f');
        Check.same("22 a dropped edge", x.foundAt(0, 1), 1);
        Check.same("20 to its end", x.goOn(0, 9), 'e');
        Check.same("20 through its view", x.goOn(1, 9), 'f');
        Check.same("20 no more in its view", x.goOn(1, 9), 'e');
        Check.same("20 in its transaction", x.goOn(2, 9), 'f');
        Check.same("20 in its transaction still", x.goOn(2, 9), 'f');
        Check.same("20 its own edge", x.goOn(2, 9), 'f');
        Check.same("22 its own edge", x.foundAt(2, 0), 2);
        Check.same("20 to the end of that", x.goOn(2, 9), 'e');
    }

    /** "a walk that goes on later gives what one walk would have given at its moment" */
    private static void walksAsAtOnce() {
        for (char way : new char[] {'e', 'n'}) {
            GristGraph x = ofNodes(5);
            for (int i = 0; i < 14; i++) {
                x.edge(i % 2, i % 4, (i + 1 + i / 4) % 5, 1);
            }
            x.step(-1, 'f', 0, 2, -1, 1);
            x.step(1, 'f', 1, 1, -1, -999);
            x.step(0, 'b', 0, 1, -1, -999);
            int count = x.matches(way, 0, -1);
            int[][] due = new int[count][];
            for (int i = 0; i < count; i++) {
                due[i] = rowOf(x, way, i);
            }
            Check.same("15 many rows", count > 10, true);
            for (int walk = 0; walk < 3; walk++) {
                x.open(way, 0);
            }
            // The second walk goes on as the graph changes, the third one in another rhythm.
            Check.same("20 at once", wander(x, 0, due, 200, false), 1);
            Check.same("20 step by step", wander(x, 1, due, 1, true), 1);
            Check.same("20 by two steps", wander(x, 2, due, 2, true), 1);
            Check.same("23 as many steps", x.steps(1), x.steps(0));
            Check.same("23 as many steps, by two", x.steps(2), x.steps(0));
            Check.same("15 other rows by now", x.matches(way, 0, -1), 0);
        }
    }

    private static int[] rowOf(GristGraph x, char way, int index) {
        int[] row = new int[9];
        int size = 0;
        try {
            while (true) {
                row[size] = x.matchAt(way, 0, index, size);
                size++;
            }
        } catch (NoSuchElementException e) {
            return Arrays.copyOf(row, size);
        }
    }

    /** Whether the walk finds just the rows that are due, in order, and then comes to its end. */
    private static int wander(GristGraph x, int walk, int[][] due, int steps, boolean isChanging) {
        int found = 0;
        for (int call = 0; call < 90; call++) {
            char told = x.goOn(walk, steps);
            if (told == 'e') {
                return found == due.length && x.found(walk) == found ? 1 : 0;
            }
            if (told == 'f') {
                if (found >= due.length) {
                    return 0;
                }
                for (int place = 0; place < due[found].length; place++) {
                    Check.same("22 edge", x.foundAt(walk, place), due[found][place]);
                }
                found++;
            }
            if (isChanging && call < 5 && x.ofNode(0, 'o') > 0) {
                x.dropEdge(call * 4 % 14);
                x.set(call % 5, -5);
                x.wipe();
                typed(x, 3, 'f', 1, 1);
            }
        }
        return -1;
    }

    private static void walksAreNotRefused() {
        GristGraph x = new GristGraph();
        x.node(0, 0);
        for (int i = 0; i < 40; i++) {
            x.edge(0, 0, 0, 1);
        }
        for (int i = 0; i < 4; i++) {
            x.step(0, 'f', 4, 4, -1, -999);
        }
        Check.fails("15 refused", REFUSED, () -> x.matches('e', 0, -1));
        x.open('e', 0);
        Check.same("20 finds the first row of 16", x.goOn(0, 16), 'f');
        for (int place = 0; place < 16; place++) {
            Check.same("22 edge", x.foundAt(0, place), place);
        }
        for (int i = 0; i < 20; i++) {
            Check.same("20 finds", x.goOn(0, 200), 'f');
        }
        // Row 16 is followed by those with 16 to 39 at their end, each found by one step.
        Check.same("23 steps", x.steps(0), 36);
        Check.same("22 last", x.foundAt(0, 15), 35);
        Check.same("21 found", x.found(0), 21);
    }
}
