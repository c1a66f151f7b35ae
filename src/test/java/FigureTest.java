import java.math.BigInteger;
import java.util.NoSuchElementException;

/** Promises 36 to 41: costs, flows and figures. */
public final class FigureTest {
    private static final Class<IllegalArgumentException> ILLEGAL = IllegalArgumentException.class;
    private static final Class<IndexOutOfBoundsException> BOUNDS = IndexOutOfBoundsException.class;
    private static final Class<NoSuchElementException> NO_SUCH = NoSuchElementException.class;
    private static final Class<ArithmeticException> ARITHMETIC = ArithmeticException.class;

    private FigureTest() { }

    public static void main(String[] args) {
        costs();
        flows();
        flowsByTheLeast();
        flowsAgainstTheirWay();
        flowsBesideTheWayBack();
        densities();
        meanWeights();
        greatestMeans();
        checksums();
        checksumsThatWrap();
        soundness();
        allInTransactions();
        Check.end();
    }

    private static GristGraph ofNodes(int count) {
        GristGraph x = new GristGraph();
        for (int i = 0; i < count; i++) {
            x.node(i % 2, i);
        }
        return x;
    }

    private static void costs() {
        GristGraph x = ofNodes(4);
        x.edge(0, 0, 1, 99);
        x.edge(1, 0, 2, 10);
        x.edge(2, 2, 1, 20);
        x.edge(0, 0, 1, 31);
        x.edge(0, 1, 1, 1);
        Check.same("36 least", x.cost(0, 1), 30);
        Check.same("36 the same", x.cost(1, 1), 0);
        Check.fails("36 not back", NO_SUCH, () -> x.cost(1, 0));
        Check.fails("36 no way", NO_SUCH, () -> x.cost(0, 3));
        Check.same("36 the same without edges", x.cost(3, 3), 0);
        Check.fails("36 no node", BOUNDS, () -> x.cost(4, 0));
        Check.fails("36 no other one", BOUNDS, () -> x.cost(0, -1));
        x.dropEdge(2);
        Check.same("36 behind a change", x.cost(0, 1), 31);
        x.view(15, 2);
        x.view(2, 15);
        x.through(0);
        Check.fails("36 no way in the view", NO_SUCH, () -> x.cost(0, 1));
        Check.same("36 a way in the view", x.cost(0, 2), 10);
        x.through(1);
        Check.fails("36 no node in the view", BOUNDS, () -> x.cost(0, 1));
        GristGraph y = ofNodes(14);
        // The last edges of the way are the first ones by number.
        for (int i = 1; i < 14; i++) {
            y.edge(0, i, i - 1, 99);
        }
        Check.same("36 a long way", y.cost(13, 0), 13 * 99);
    }

    private static void flows() {
        GristGraph x = ofNodes(4);
        x.edge(0, 0, 1, 10);
        x.edge(0, 0, 2, 5);
        x.edge(0, 1, 2, 15);
        x.edge(0, 1, 3, 4);
        x.edge(0, 2, 3, 9);
        x.edge(0, 3, 3, 50);
        Check.same("37 flow", x.flow(0, 3), 13);
        Check.same("37 again", x.flow(0, 3), 13);
        Check.same("37 not back", x.flow(3, 0), 0);
        Check.fails("37 the same", ILLEGAL, () -> x.flow(2, 2));
        Check.fails("37 no node first", BOUNDS, () -> x.flow(4, 4));
        Check.fails("37 no other one", BOUNDS, () -> x.flow(0, 4));
        x.edge(1, 0, 3, 99);
        Check.same("37 with one more", x.flow(0, 3), 112);
        x.view(15, 1);
        x.view(11, 15);
        x.through(0);
        Check.same("37 through a view", x.flow(0, 3), 13);
        x.view(1, 15);
        x.through(2);
        Check.fails("37 not in the view", BOUNDS, () -> x.flow(0, 3));
        Check.same("37 in the view", x.flow(0, 2), 5);
    }

    /** "each as much as its weight": the narrowest edge tells, wherever it is on the way. */
    private static void flowsByTheLeast() {
        int[][] ways = {{1, 99, 99}, {99, 1, 99}, {99, 99, 1}, {7, 8, 9}, {9, 7, 8}, {8, 9, 7}};
        for (int[] way : ways) {
            GristGraph x = ofNodes(4);
            for (int i = 0; i < 3; i++) {
                x.edge(i, i, i + 1, way[i]);
            }
            int least = Math.min(way[0], Math.min(way[1], way[2]));
            Check.same("37 by the narrowest", x.flow(0, 3), least);
            Check.same("37 not against them", x.flow(3, 0), 0);
            x.edge(0, 0, 3, 1);
            Check.same("37 beside it", x.flow(0, 3), least + 1);
        }
    }

    /** The greedy path through the middle has to be taken back. */
    private static void flowsAgainstTheirWay() {
        GristGraph x = ofNodes(8);
        int[] ways = {7, 1, 1, 2, 2, 0, 7, 4, 4, 5, 5, 2, 1, 6, 6, 3, 3, 0};
        for (int i = 0; i < ways.length; i += 2) {
            x.edge(0, ways[i], ways[i + 1], 5);
        }
        Check.same("37 taken back", x.flow(7, 0), 10);
        Check.same("37 from the first one", x.flow(0, 7), 0);
        x.edge(0, 0, 0, 9);
        Check.same("37 a loop bears nothing", x.flow(7, 0), 10);
        Check.same("37 through the first one", x.flow(3, 0), 5);
        x.edge(0, 0, 4, 3);
        Check.same("37 on from the first one", x.flow(3, 4), 3);
        GristGraph y = ofNodes(2);
        for (int i = 0; i < 40; i++) {
            y.edge(0, 0, 1, 99);
        }
        Check.same("37 the greatest of all", y.flow(0, 1), 3960);
    }

    /** What flows from 1 to 2 does not take the edge from 2 to 1 away: it bears more by then. */
    private static void flowsBesideTheWayBack() {
        GristGraph x = ofNodes(8);
        x.edge(0, 0, 1, 1);
        x.edge(0, 1, 2, 9);
        x.edge(0, 2, 3, 1);
        Check.same("37 the short way", x.flow(0, 3), 1);
        int[] way = {0, 4, 5, 2, 1, 6, 7, 3};
        for (int i = 1; i < way.length; i++) {
            x.edge(0, way[i - 1], way[i], 40 + i);
        }
        Check.same("37 the long way back over it too", x.flow(0, 3), 42);
        Check.same("37 of both ways", x.flow(2, 1), 44);
        Check.same("37 of both ways, the other one", x.flow(1, 2), 9);
    }

    private static void densities() {
        Check.fails("38 no nodes", ARITHMETIC, () -> new GristGraph().density());
        GristGraph x = ofNodes(3);
        Check.same("38 no edges", x.density(), 0.0f);
        x.edge(0, 0, 1, 1);
        x.edge(1, 0, 1, 1);
        x.edge(0, 1, 0, 1);
        x.edge(0, 2, 2, 1);
        Check.same("38 pairs", x.density(), 3.0f / 9.0f);
        x.edge(0, 0, 0, 1);
        Check.same("38 the first one twice", x.density(), 4.0f / 9.0f);
        x.dropEdge(4);
        Check.same("38 as before", x.density(), 3.0f / 9.0f);
        x.view(1, 15);
        x.view(0, 15);
        x.through(0);
        Check.same("38 through a view", x.density(), 0.25f);
        x.through(1);
        Check.fails("38 no nodes in the view", ARITHMETIC, () -> x.density());
    }

    private static void meanWeights() {
        GristGraph x = ofNodes(2);
        Check.fails("39 no edges", ARITHMETIC, () -> x.meanWeight());
        x.edge(0, 0, 1, 1);
        x.edge(1, 0, 1, 2);
        x.edge(1, 1, 1, 2);
        Check.same("39 mean", x.meanWeight(), 5.0 / 3.0);
        x.view(15, 1);
        x.view(15, 4);
        x.through(0);
        Check.same("39 through a view", x.meanWeight(), 1.0);
        x.through(1);
        Check.fails("39 none in the view", ARITHMETIC, () -> x.meanWeight());
    }

    private static void greatestMeans() {
        GristGraph x = ofNodes(14);
        for (int i = 0; i < 39; i++) {
            x.edge(0, i % 14, i / 14, 99);
        }
        Check.same("39 of 39 edges", x.meanWeight(), 99.0);
        Check.same("38 of 39 pairs", x.density(), 39.0f / 196.0f);
        x.edge(0, 0, 0, 1);
        Check.same("39 of 40 edges", x.meanWeight(), (39.0 * 99.0 + 1.0) / 40.0);
        Check.same("38 the same pair again", x.density(), 39.0f / 196.0f);
        GristGraph y = ofNodes(2);
        for (int i = 0; i < 4; i++) {
            y.edge(i, i / 2, i % 2, 1);
        }
        Check.same("38 all pairs", y.density(), 1.0f);
        Check.same("39 the least", y.meanWeight(), 1.0);
        GristGraph z = ofNodes(1);
        z.edge(0, 0, 0, 2);
        Check.same("38 the same twice", z.density(), 1.0f);
    }

    /** A long has no room for the sum of all: it wraps round. */
    private static void checksumsThatWrap() {
        GristGraph x = new GristGraph();
        BigInteger sum = BigInteger.valueOf(7);
        for (int i = 0; i < 14; i++) {
            x.node(0, i % 2 == 0 ? -999 : 999);
            sum = next(next(sum, i), i % 2 == 0 ? -999 : 999);
            Check.same("40 of " + (i + 1) + " nodes", x.checksum(), sum.longValue());
        }
        for (int i = 0; i < 40; i++) {
            x.edge(1, 0, i % 14, 1);
            sum = next(sum, i);
            Check.same("40 with " + (i + 1) + " edges", x.checksum(), sum.longValue());
        }
        for (int i = 0; i < 4; i++) {
            x.closure(i);
            sum = next(sum, i == 1 ? 14 : 0);
            Check.same("40 with " + (i + 1) + " closures", x.checksum(), sum.longValue());
        }
        Check.same("40 it is beyond a long", sum.bitLength() > 64, true);
    }

    private static BigInteger next(BigInteger sum, int number) {
        return sum.multiply(BigInteger.valueOf(31)).add(BigInteger.valueOf(number));
    }

    private static long sum(long... row) {
        long sum = 7;
        for (long number : row) {
            sum = 31 * sum + number;
        }
        return sum;
    }

    private static void checksums() {
        GristGraph x = new GristGraph();
        Check.same("40 at first", x.checksum(), 7L);
        x.node(0, -4);
        x.node(2, 900);
        x.edge(0, 0, 1, 1);
        x.edge(0, 1, 0, 1);
        Check.same("40 nodes and edges", x.checksum(), sum(0, -4, 1, 900, 0, 1));
        x.closure(0);
        x.closure(1);
        Check.same("40 closures", x.checksum(), sum(0, -4, 1, 900, 0, 1, 4, 0));
        x.dropNode(0);
        Check.same("40 what is left", x.checksum(), sum(1, 900, 0, 0));
        x.view(0, 0);
        x.through(0);
        x.begin();
        x.use(0);
        x.dropNode(1);
        Check.same("40 the shared graph", x.checksum(), sum(1, 900, 0, 0));
    }

    private static void soundness() {
        GristGraph y = ofNodes(3);
        y.edge(0, 0, 1, 1);
        y.edge(0, 1, 2, 1);
        y.closure(0);
        Check.same("41 sound without a change", y.isSound(), true);
        GristGraph x = ofNodes(4);
        x.rule('a', 0);
        x.rule('u', 1);
        x.closure(0);
        x.degrees(true, 0, 0, 0, 2);
        x.edge(0, 0, 1, 1);
        x.edge(0, 1, 2, 1);
        Check.same("41 sound", x.isSound(), true);
        x.dropNode(1);
        x.begin();
        x.use(0);
        x.edge(0, 2, 2, 1);
        Check.same("41 of the shared graph", x.isSound(), true);
        Check.same("41 refused", x.commit(0), 's');
        Check.same("41 still sound", x.isSound(), true);
    }

    private static void allInTransactions() {
        GristGraph x = ofNodes(2);
        x.edge(0, 0, 1, 8);
        x.begin();
        x.use(0);
        x.edge(0, 0, 1, 2);
        Check.same("36 in a transaction", x.cost(0, 1), 2);
        Check.same("37 in a transaction", x.flow(0, 1), 10);
        Check.same("39 in a transaction", x.meanWeight(), 5.0);
        x.dropNode(1);
        Check.same("38 in a transaction", x.density(), 0.0f);
        Check.fails("36 dropped there", BOUNDS, () -> x.cost(0, 1));
        x.use(-1);
        Check.same("36 in the shared graph", x.cost(0, 1), 8);
    }
}
