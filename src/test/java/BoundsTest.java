import java.util.Arrays;
import java.util.TreeSet;

/**
 * Each argument of each call: at its bounds it is taken, just beyond them, far beyond them and at
 * the least and the greatest int it is refused, by the exception that the document names.
 */
public final class BoundsTest {
    private BoundsTest() { }

    private interface Store {
        GristGraph make();
    }

    private interface OfNumber {
        Object ask(GristGraph x, int number);
    }

    private interface OfLetter {
        Object ask(GristGraph x, char letter);
    }

    public static void main(String[] args) {
        graph();
        looks();
        views();
        steps();
        questions();
        walks();
        closures();
        rules();
        transactions();
        watches();
        figures();
        Check.end();
    }

    /** Nodes 0 to 4 of kind 0, edges 0 to 4 of kind 0: 0 to 1, 1 to 2, 2 to 3, 3 to 4, 4 to 0. */
    private static GristGraph ring() {
        GristGraph x = new GristGraph();
        for (int i = 0; i < 5; i++) {
            x.node(0, i);
        }
        for (int i = 0; i < 5; i++) {
            x.edge(0, i, (i + 1) % 5, 1 + i);
        }
        return x;
    }

    /** The ring with four of each thing that is kept, and a pattern of one step. */
    private static GristGraph kept() {
        GristGraph x = ring();
        x.step(0, 'f', 0, 4, -1, -999);
        for (int i = 0; i < 4; i++) {
            x.view(15, 15);
            x.open('e', i);
            x.closure(i);
            x.watch('n', i);
        }
        for (int i = 0; i < 3; i++) {
            x.begin();
        }
        return x;
    }

    /** Such numbers too that a shift, a byte or a char would take for one inside. */
    private static TreeSet<Integer> beyond(int least, int most) {
        TreeSet<Integer> numbers = new TreeSet<>();
        numbers.add(Integer.MIN_VALUE);
        numbers.add(Integer.MIN_VALUE + 1);
        numbers.add(Integer.MAX_VALUE);
        numbers.add(Integer.MAX_VALUE - 1);
        for (int far : new int[] {1, 2, 3, 5, 16, 31, 32, 64, 256, 65536}) {
            numbers.add(least - far);
            numbers.add(least + far);
            numbers.add(most + far);
        }
        numbers.add(Integer.MIN_VALUE + least);
        numbers.add(Integer.MIN_VALUE + most);
        numbers.removeIf(number -> number >= least && number <= most);
        return numbers;
    }

    private static TreeSet<Integer> inside(int least, int most) {
        TreeSet<Integer> numbers = new TreeSet<>();
        numbers.add(least);
        numbers.add(least + (most - least) / 2);
        numbers.add(most);
        return numbers;
    }

    private static void number(String what, int least, int most,
            Class<? extends RuntimeException> due, Store store, OfNumber call) {
        for (int inside : inside(least, most)) {
            GristGraph x = store.make();
            Check.passes(what + " " + inside, () -> call.ask(x, inside));
        }
        for (int outside : beyond(least, most)) {
            GristGraph x = store.make();
            Check.fails(what + " " + outside, due, () -> call.ask(x, outside));
        }
    }

    private static void letter(String what, String letters, Store store, OfLetter call) {
        StringBuilder others = new StringBuilder();
        for (char other = 0; other < 128; other++) {
            others.append(other);
        }
        for (char inside : letters.toCharArray()) {
            GristGraph x = store.make();
            Check.passes(what + " " + inside, () -> call.ask(x, inside));
            others.append((char) (inside + 128)).append((char) (inside + 256));
        }
        others.append((char) 0x7fff).append((char) 0x8000).append((char) 0xffff);
        for (char other : others.toString().toCharArray()) {
            if (letters.indexOf(other) < 0) {
                GristGraph x = store.make();
                Check.fails(what + " " + (int) other, Check.ILLEGAL, () -> call.ask(x, other));
            }
        }
    }

    private static void graph() {
        number("2 kind", 0, 3, Check.ILLEGAL, GristGraph::new, (x, n) -> x.node(n, 0));
        number("2 value", -999, 999, Check.ILLEGAL, GristGraph::new, (x, n) -> x.node(0, n));
        number("3 kind", 0, 3, Check.ILLEGAL, BoundsTest::ring, (x, n) -> x.edge(n, 0, 1, 1));
        number("3 from", 0, 4, Check.BOUNDS, BoundsTest::ring, (x, n) -> x.edge(0, n, 1, 1));
        number("3 to", 0, 4, Check.BOUNDS, BoundsTest::ring, (x, n) -> x.edge(0, 1, n, 1));
        number("3 weight", 1, 99, Check.ILLEGAL, BoundsTest::ring, (x, n) -> x.edge(0, 0, 1, n));
        number("4 node", 0, 4, Check.BOUNDS, BoundsTest::ring, GristGraph::dropNode);
        number("5 edge", 0, 4, Check.BOUNDS, BoundsTest::ring, GristGraph::dropEdge);
        number("6 node", 0, 4, Check.BOUNDS, BoundsTest::ring, (x, n) -> x.set(n, 0));
        number("6 value", -999, 999, Check.ILLEGAL, BoundsTest::ring, (x, n) -> x.set(4, n));
        // What stands at the bounds is kept as it was told.
        GristGraph x = new GristGraph();
        x.node(0, -999);
        x.node(3, 999);
        x.edge(0, 0, 1, 1);
        x.edge(3, 1, 0, 99);
        int[] due = {0, -999, 3, 999, 0, 1, 3, 99};
        int[] got = {x.ofNode(0, 'k'), x.ofNode(0, 'v'), x.ofNode(1, 'k'), x.ofNode(1, 'v'),
            x.ofEdge(0, 'k'), x.ofEdge(0, 'w'), x.ofEdge(1, 'k'), x.ofEdge(1, 'w')};
        Check.same("2 3 bounds are kept", Arrays.toString(got),
                Arrays.toString(due));
        Check.same("6 to the greatest value", x.set(0, 999), -999);
        Check.same("6 to the least value", x.set(0, -999), 999);
        Check.same("6 of the least value", x.ofNode(0, 'v'), -999);
        Check.same("5 the greatest weight", x.dropEdge(1), 99);
        Check.same("5 the least weight", x.dropEdge(0), 1);
    }

    private static void looks() {
        number("9 node", 0, 4, Check.BOUNDS, BoundsTest::ring, (x, n) -> x.ofNode(n, 'v'));
        letter("9 what", "kvoi", BoundsTest::ring, (x, c) -> x.ofNode(1, c));
        number("10 edge", 0, 4, Check.BOUNDS, BoundsTest::ring, (x, n) -> x.ofEdge(n, 'w'));
        letter("10 what", "kftw", BoundsTest::ring, (x, c) -> x.ofEdge(1, c));
        // Just one node and edge: a number that wraps round to theirs is no such number.
        Store one = () -> {
            GristGraph x = new GristGraph();
            x.node(0, 0);
            x.edge(0, 0, 0, 1);
            return x;
        };
        number("9 the only node", 0, 0, Check.BOUNDS, one, (x, n) -> x.ofNode(n, 'k'));
        number("10 the only edge", 0, 0, Check.BOUNDS, one, (x, n) -> x.ofEdge(n, 'k'));
        number("9 none", 0, 13, Check.BOUNDS, BoundsTest::fourteen, (x, n) -> x.ofNode(n, 'k'));
        number("10 none", 0, 39, Check.BOUNDS, BoundsTest::fourteen, (x, n) -> x.ofEdge(n, 'k'));
        number("4 the last", 0, 13, Check.BOUNDS, BoundsTest::fourteen, GristGraph::dropNode);
        number("5 the last", 0, 39, Check.BOUNDS, BoundsTest::fourteen, GristGraph::dropEdge);
        number("6 the last", 0, 13, Check.BOUNDS, BoundsTest::fourteen, (x, n) -> x.set(n, 1));
    }

    /** As many nodes and edges as are ever made. */
    private static GristGraph fourteen() {
        GristGraph x = new GristGraph();
        for (int i = 0; i < 14; i++) {
            x.node(i % 4, i);
        }
        for (int i = 0; i < 40; i++) {
            x.edge(i % 4, i % 14, i * 3 % 14, 1 + i);
        }
        return x;
    }

    private static void views() {
        number("11 kinds of nodes", 0, 15, Check.ILLEGAL, GristGraph::new, (x, n) -> x.view(n, 0));
        number("11 kinds of edges", 0, 15, Check.ILLEGAL, GristGraph::new, (x, n) -> x.view(0, n));
        number("12 view", -1, 3, Check.BOUNDS, BoundsTest::kept, GristGraph::through);
        number("12 without views", -1, -1, Check.BOUNDS, GristGraph::new, GristGraph::through);
    }

    private static void steps() {
        Store none = GristGraph::new;
        number("13 kind", -1, 3, Check.ILLEGAL, none, (x, n) -> x.step(n, 'f', 0, 1, -1, 0));
        letter("13 direction", "fb", none, (x, c) -> x.step(0, c, 0, 1, -1, 0));
        number("13 least", 0, 4, Check.ILLEGAL, none, (x, n) -> x.step(0, 'f', n, 4, -1, 0));
        number("13 most", 0, 4, Check.ILLEGAL, none, (x, n) -> x.step(0, 'f', 0, n, -1, 0));
        number("13 least, with 2", 0, 2, Check.ILLEGAL, none,
                (x, n) -> x.step(0, 'f', n, 2, -1, 0));
        number("13 most, with 2", 2, 4, Check.ILLEGAL, none,
                (x, n) -> x.step(0, 'f', 2, n, -1, 0));
        number("13 both", 0, 4, Check.ILLEGAL, none, (x, n) -> x.step(0, 'f', n, n, -1, 0));
        number("13 kind of the node", -1, 3, Check.ILLEGAL, none,
                (x, n) -> x.step(0, 'f', 0, 1, n, 0));
        number("13 value", -999, 999, Check.ILLEGAL, none, (x, n) -> x.step(0, 'f', 0, 1, -1, n));
    }

    private static void questions() {
        Store one = BoundsTest::kept;
        letter("15 way", "en", one, (x, c) -> x.matches(c, 0, -1));
        letter("16 way", "en", one, (x, c) -> x.shortest(c, 0, -1));
        letter("17 way", "en", one, (x, c) -> x.allShortest(c, 0, -1));
        letter("18 way", "en", one, (x, c) -> x.matchAt(c, 0, 1, 0));
        number("15 from", 0, 4, Check.BOUNDS, one, (x, n) -> x.matches('e', n, -1));
        number("16 from", 0, 4, Check.BOUNDS, one, (x, n) -> x.shortest('e', n, -1));
        number("17 from", 0, 4, Check.BOUNDS, one, (x, n) -> x.allShortest('e', n, -1));
        number("18 from", 0, 4, Check.BOUNDS, one, (x, n) -> x.matchAt('e', n, 1, 0));
        number("15 to", -1, 4, Check.BOUNDS, one, (x, n) -> x.matches('e', 0, n));
        number("16 to", -1, 4, Check.BOUNDS, one, (x, n) -> x.shortest('e', 0, n));
        number("17 to", -1, 4, Check.BOUNDS, one, (x, n) -> x.allShortest('e', 0, n));
        // Five matches: of no edges and of one, two, three and four.
        number("18 match", 1, 4, Check.NO_SUCH, one, (x, n) -> x.matchAt('e', 0, n, 0));
        number("18 place", 0, 3, Check.NO_SUCH, one, (x, n) -> x.matchAt('e', 0, 4, n));
        number("18 place in one edge", 0, 0, Check.NO_SUCH, one, (x, n) -> x.matchAt('e', 0, 1, n));
    }

    private static void walks() {
        letter("19 way", "en", BoundsTest::ring, (x, c) -> x.open(c, 0));
        number("19 from", 0, 4, Check.BOUNDS, BoundsTest::ring, (x, n) -> x.open('e', n));
        number("20 walk", 0, 3, Check.BOUNDS, BoundsTest::kept, (x, n) -> x.goOn(n, 1));
        number("20 steps", 1, 200, Check.ILLEGAL, BoundsTest::kept, (x, n) -> x.goOn(0, n));
        number("21 walk", 0, 3, Check.BOUNDS, BoundsTest::kept, GristGraph::found);
        number("23 walk", 0, 3, Check.BOUNDS, BoundsTest::kept, GristGraph::steps);
        Store gone = () -> {
            GristGraph x = kept();
            for (int i = 0; i < 20; i++) {
                x.goOn(i % 4, 1);
            }
            return x;
        };
        number("22 walk", 0, 3, Check.BOUNDS, gone, (x, n) -> x.foundAt(n, 0));
        number("22 place", 0, 3, Check.NO_SUCH, gone, (x, n) -> x.foundAt(3, n));
        number("20 one walk", 0, 0, Check.BOUNDS, BoundsTest::oneWalk, (x, n) -> x.goOn(n, 1));
        number("21 one walk", 0, 0, Check.BOUNDS, BoundsTest::oneWalk, GristGraph::found);
        number("23 one walk", 0, 0, Check.BOUNDS, BoundsTest::oneWalk, GristGraph::steps);
    }

    private static GristGraph oneWalk() {
        GristGraph x = ring();
        x.open('e', 0);
        return x;
    }

    private static void closures() {
        Store kept = BoundsTest::kept;
        number("24 kind", 0, 3, Check.ILLEGAL, GristGraph::new, GristGraph::closure);
        number("25 closure", 0, 3, Check.BOUNDS, kept, (x, n) -> x.reaches(n, 0, 0));
        number("25 from", 0, 4, Check.BOUNDS, kept, (x, n) -> x.reaches(0, n, 0));
        number("25 to", 0, 4, Check.BOUNDS, kept, (x, n) -> x.reaches(0, 0, n));
        number("26 closure", 0, 3, Check.BOUNDS, kept, GristGraph::pairs);
        number("27 closure, came", 0, 3, Check.BOUNDS, kept, (x, n) -> x.changes(n, true));
        number("27 closure, went", 0, 3, Check.BOUNDS, kept, (x, n) -> x.changes(n, false));
    }

    private static void rules() {
        Store none = GristGraph::new;
        for (boolean isOut : new boolean[] {true, false}) {
            number("28 kind of nodes", 0, 3, Check.ILLEGAL, none,
                    (x, n) -> x.degrees(isOut, n, 0, 0, 9));
            number("28 kind of edges", 0, 3, Check.ILLEGAL, none,
                    (x, n) -> x.degrees(isOut, 0, n, 0, 9));
            number("28 least", 0, 9, Check.ILLEGAL, none, (x, n) -> x.degrees(isOut, 0, 0, n, 9));
            number("28 most", 0, 9, Check.ILLEGAL, none, (x, n) -> x.degrees(isOut, 0, 0, 0, n));
            number("28 least, with 4", 0, 4, Check.ILLEGAL, none,
                    (x, n) -> x.degrees(isOut, 0, 0, n, 4));
            number("28 most, with 4", 4, 9, Check.ILLEGAL, none,
                    (x, n) -> x.degrees(isOut, 0, 0, 4, n));
        }
        letter("29 rule", "ua", none, (x, c) -> x.rule(c, 0));
        number("29 kind of nodes", 0, 3, Check.ILLEGAL, none, (x, n) -> x.rule('u', n));
        number("29 kind of edges", 0, 3, Check.ILLEGAL, none, (x, n) -> x.rule('a', n));
    }

    private static void transactions() {
        number("31 transaction", -1, 2, Check.BOUNDS, BoundsTest::kept, GristGraph::use);
        number("31 none begun", -1, -1, Check.BOUNDS, GristGraph::new, GristGraph::use);
        number("32 transaction", 0, 2, Check.BOUNDS, BoundsTest::kept, GristGraph::commit);
        number("33 transaction", 0, 2, Check.BOUNDS, BoundsTest::kept, GristGraph::abort);
        Store used = () -> {
            GristGraph x = kept();
            x.use(1);
            return x;
        };
        number("32 one is used", 0, 2, Check.BOUNDS, used, GristGraph::commit);
        number("33 one is used", 0, 2, Check.BOUNDS, used, GristGraph::abort);
    }

    private static void watches() {
        letter("34 way", "en", BoundsTest::ring, (x, c) -> x.watch(c, 0));
        number("34 from", 0, 4, Check.BOUNDS, BoundsTest::ring, (x, n) -> x.watch('e', n));
        number("35 watch, found", 0, 3, Check.BOUNDS, BoundsTest::kept, (x, n) -> x.news(n, true));
        number("35 watch, lost", 0, 3, Check.BOUNDS, BoundsTest::kept, (x, n) -> x.news(n, false));
    }

    private static void figures() {
        number("36 from", 0, 4, Check.BOUNDS, BoundsTest::ring, (x, n) -> x.cost(n, 0));
        number("36 to", 0, 4, Check.BOUNDS, BoundsTest::ring, (x, n) -> x.cost(0, n));
        // Inside, 0, 2 and 4 are asked, none of them the same as 1.
        number("37 from", 0, 4, Check.BOUNDS, BoundsTest::ring, (x, n) -> x.flow(n, 1));
        number("37 to", 0, 4, Check.BOUNDS, BoundsTest::ring, (x, n) -> x.flow(1, n));
    }
}
