/**
 * "If several exceptions apply, the one that is documented first is thrown": for each call, any
 * two of its exceptions that can apply together, and all of them.
 */
public final class OrderTest {
    private static final int MIN = Integer.MIN_VALUE;
    private static final int MAX = Integer.MAX_VALUE;

    private OrderTest() { }

    public static void main(String[] args) {
        nodes();
        edges();
        dropsAndSets();
        looks();
        views();
        steps();
        questions();
        walks();
        closuresAndRules();
        transactions();
        watches();
        figures();
        Check.end();
    }

    /** Nodes of kind 0, with their numbers as values. */
    private static GristGraph ofNodes(int count) {
        GristGraph x = new GristGraph();
        for (int i = 0; i < count; i++) {
            x.node(0, i);
        }
        return x;
    }

    private static void nodes() {
        GristGraph x = ofNodes(13);
        x.degrees(true, 1, 0, 1, 1);
        Check.fails("2 range, rule", Check.ILLEGAL, () -> x.node(1, 1000));
        Check.fails("2 kind out of range, rule", Check.ILLEGAL, () -> x.node(4, 0));
        Check.fails("2 rule", Check.REFUSED, () -> x.node(1, 999));
        x.node(0, 13);
        Check.fails("2 range, full", Check.ILLEGAL, () -> x.node(0, -1000));
        Check.fails("2 kind out of range, full", Check.ILLEGAL, () -> x.node(-1, 0));
        Check.fails("2 rule, full", Check.REFUSED, () -> x.node(1, 0));
        Check.fails("2 range, rule, full", Check.ILLEGAL, () -> x.node(1, MAX));
        Check.fails("2 full", Check.STATE, () -> x.node(0, 0));
        x.begin();
        x.use(0);
        Check.fails("2 full, in a transaction", Check.STATE, () -> x.node(1, 0));
        Check.fails("2 range, full, in a transaction", Check.ILLEGAL, () -> x.node(1, MIN));
        // A rule on values, with each place taken and each but the value's.
        GristGraph y = ofNodes(14);
        y.rule('u', 0);
        Check.fails("2 like value, full", Check.REFUSED, () -> y.node(0, 13));
        Check.fails("2 unlike value, full", Check.STATE, () -> y.node(0, 14));
        Check.fails("2 value of another kind, full", Check.STATE, () -> y.node(1, 13));
    }

    private static void edges() {
        GristGraph x = ofNodes(3);
        x.dropNode(2);
        x.rule('a', 1);
        x.degrees(true, 0, 2, 0, 0);
        Check.fails("3 no node, range", Check.BOUNDS, () -> x.edge(4, 2, 0, 1));
        Check.fails("3 no other one, range", Check.BOUNDS, () -> x.edge(0, 0, 2, 100));
        Check.fails("3 no node, rule", Check.BOUNDS, () -> x.edge(1, 2, 2, 1));
        Check.fails("3 no other one, rule", Check.BOUNDS, () -> x.edge(2, 0, 2, 1));
        Check.fails("3 range, rule", Check.ILLEGAL, () -> x.edge(1, 0, 0, 0));
        Check.fails("3 weight above, rule", Check.ILLEGAL, () -> x.edge(2, 0, 1, 100));
        Check.fails("3 no node, range, rule", Check.BOUNDS, () -> x.edge(1, 3, 3, MIN));
        for (int i = 0; i < 40; i++) {
            x.edge(0, 0, 1, 1);
        }
        Check.fails("3 no node, full", Check.BOUNDS, () -> x.edge(0, 0, -1, 1));
        Check.fails("3 range, full", Check.ILLEGAL, () -> x.edge(-1, 0, 0, 1));
        Check.fails("3 ring, full", Check.REFUSED, () -> x.edge(1, 0, 0, 1));
        Check.fails("3 degree, full", Check.REFUSED, () -> x.edge(2, 0, 1, 1));
        Check.fails("3 range, rule, full", Check.ILLEGAL, () -> x.edge(1, 0, 0, 100));
        Check.fails("3 all", Check.BOUNDS, () -> x.edge(1, 2, 2, 100));
        Check.fails("3 full", Check.STATE, () -> x.edge(1, 0, 1, 1));
        x.begin();
        x.use(0);
        Check.fails("3 full, in a transaction", Check.STATE, () -> x.edge(1, 0, 0, 1));
        Check.fails("3 no node, full, in a transaction", Check.BOUNDS, () -> x.edge(9, 2, 0, 1));
        Check.fails("3 range, full, in a transaction", Check.ILLEGAL, () -> x.edge(9, 0, 0, 1));
    }

    private static void dropsAndSets() {
        GristGraph x = ofNodes(3);
        x.edge(0, 0, 1, 1);
        x.dropNode(2);
        x.rule('u', 0);
        x.degrees(true, 0, 3, 0, 9);
        Check.fails("6 no node, range", Check.BOUNDS, () -> x.set(2, 1000));
        Check.fails("6 no node, like value", Check.BOUNDS, () -> x.set(2, 1));
        Check.fails("6 below, range", Check.BOUNDS, () -> x.set(-1, MIN));
        Check.fails("6 range", Check.ILLEGAL, () -> x.set(0, MAX));
        Check.fails("6 rule", Check.REFUSED, () -> x.set(0, 1));
        x.dropEdge(0);
        x.edge(1, 0, 1, 1);
        x.degrees(true, 0, 1, 0, 1);
        x.degrees(false, 0, 1, 0, 1);
        Check.fails("4 gone", Check.BOUNDS, () -> x.dropNode(2));
        Check.fails("5 gone", Check.BOUNDS, () -> x.dropEdge(0));
    }

    private static void looks() {
        GristGraph x = ofNodes(2);
        x.edge(0, 0, 0, 1);
        x.edge(0, 0, 1, 1);
        x.dropNode(1);
        Check.fails("9 no node, no thing", Check.BOUNDS, () -> x.ofNode(1, 'x'));
        Check.fails("9 never made, no thing", Check.BOUNDS, () -> x.ofNode(MAX, 'w'));
        Check.fails("9 no thing", Check.ILLEGAL, () -> x.ofNode(0, 'w'));
        Check.fails("10 no edge, no thing", Check.BOUNDS, () -> x.ofEdge(1, 'x'));
        Check.fails("10 never made, no thing", Check.BOUNDS, () -> x.ofEdge(MIN, 'v'));
        Check.fails("10 no thing", Check.ILLEGAL, () -> x.ofEdge(0, 'v'));
        x.view(0, 0);
        x.through(0);
        Check.fails("9 not in the view, no thing", Check.BOUNDS, () -> x.ofNode(0, 'x'));
        Check.fails("10 not in the view, no thing", Check.BOUNDS, () -> x.ofEdge(0, 'x'));
    }

    private static void views() {
        GristGraph x = new GristGraph();
        for (int i = 0; i < 4; i++) {
            x.view(i, i);
        }
        Check.fails("11 other kinds of nodes, full", Check.ILLEGAL, () -> x.view(16, 0));
        Check.fails("11 other kinds of edges, full", Check.ILLEGAL, () -> x.view(0, MIN));
        Check.fails("11 full", Check.STATE, () -> x.view(0, 0));
    }

    private static void steps() {
        GristGraph x = new GristGraph();
        for (int i = 0; i < 4; i++) {
            x.step(0, 'f', 0, 1, -1, 0);
        }
        Check.fails("13 kind, full", Check.ILLEGAL, () -> x.step(4, 'f', 0, 1, -1, 0));
        Check.fails("13 direction, full", Check.ILLEGAL, () -> x.step(0, 'a', 0, 1, -1, 0));
        Check.fails("13 least, full", Check.ILLEGAL, () -> x.step(0, 'f', -1, 1, -1, 0));
        Check.fails("13 most, full", Check.ILLEGAL, () -> x.step(0, 'f', 0, 5, -1, 0));
        Check.fails("13 most less, full", Check.ILLEGAL, () -> x.step(0, 'f', 1, 0, -1, 0));
        Check.fails("13 kind of the node, full", Check.ILLEGAL, () -> x.step(0, 'f', 0, 1, 4, 0));
        Check.fails("13 value, full", Check.ILLEGAL, () -> x.step(0, 'f', 0, 1, -1, MAX));
        Check.fails("13 full", Check.STATE, () -> x.step(0, 'f', 0, 1, -1, 0));
    }

    /** From node 0 on more than 3000 rows begin a match, from node 1 on there is one to itself. */
    private static GristGraph crowded() {
        GristGraph x = ofNodes(4);
        for (int i = 0; i < 16; i++) {
            x.edge(0, 0, 0, 1);
        }
        x.dropNode(3);
        x.step(0, 'f', 0, 3, -1, 0);
        return x;
    }

    private static void questions() {
        GristGraph x = crowded();
        Check.fails("15 no node, no way", Check.BOUNDS, () -> x.matches('x', 3, -1));
        Check.fails("15 no other one, no way", Check.BOUNDS, () -> x.matches('x', 0, 3));
        Check.fails("15 no other one, too many", Check.BOUNDS, () -> x.matches('e', 0, 3));
        Check.fails("15 other one below, too many", Check.BOUNDS, () -> x.matches('e', 0, -2));
        Check.fails("15 no way, too many", Check.ILLEGAL, () -> x.matches('x', 0, -1));
        Check.fails("15 too many", Check.REFUSED, () -> x.matches('e', 0, 1));
        Check.fails("16 no node, no way", Check.BOUNDS, () -> x.shortest('x', MIN, -1));
        Check.fails("16 no other one, too many", Check.BOUNDS, () -> x.shortest('e', 0, 3));
        Check.fails("16 no other one, none", Check.BOUNDS, () -> x.shortest('e', 1, 3));
        Check.fails("16 no way, too many", Check.ILLEGAL, () -> x.shortest('x', 0, -1));
        Check.fails("16 no way, none", Check.ILLEGAL, () -> x.shortest('x', 1, 2));
        Check.fails("16 too many, none", Check.REFUSED, () -> x.shortest('e', 0, 1));
        Check.fails("16 none", Check.NO_SUCH, () -> x.shortest('e', 1, 2));
        Check.fails("17 no node, no way", Check.BOUNDS, () -> x.allShortest('x', 3, 3));
        Check.fails("17 no other one, too many", Check.BOUNDS, () -> x.allShortest('e', 0, 3));
        Check.fails("17 no way, too many", Check.ILLEGAL, () -> x.allShortest('x', 0, 0));
        Check.fails("17 too many", Check.REFUSED, () -> x.allShortest('e', 0, 1));
        Check.fails("18 no node, no way", Check.BOUNDS, () -> x.matchAt('x', 3, 0, 0));
        Check.fails("18 no node, no match", Check.BOUNDS, () -> x.matchAt('e', 3, -1, 0));
        Check.fails("18 no way, too many", Check.ILLEGAL, () -> x.matchAt('x', 0, 0, 0));
        Check.fails("18 no way, no match", Check.ILLEGAL, () -> x.matchAt('x', 1, 1, 0));
        Check.fails("18 too many, no match", Check.REFUSED, () -> x.matchAt('e', 0, MAX, 0));
        Check.fails("18 too many, no place", Check.REFUSED, () -> x.matchAt('e', 0, 0, MIN));
        Check.fails("18 no match", Check.NO_SUCH, () -> x.matchAt('e', 1, 1, 0));
        Check.fails("18 no place", Check.NO_SUCH, () -> x.matchAt('e', 1, 0, 0));
    }

    private static void walks() {
        GristGraph x = crowded();
        Check.fails("19 no node, no way", Check.BOUNDS, () -> x.open('x', 3));
        for (int i = 0; i < 4; i++) {
            x.open('e', i % 3);
        }
        Check.fails("19 no node, full", Check.BOUNDS, () -> x.open('e', 3));
        Check.fails("19 no way, full", Check.ILLEGAL, () -> x.open('x', 0));
        Check.fails("19 all", Check.BOUNDS, () -> x.open('x', -1));
        Check.fails("19 full, many rows", Check.STATE, () -> x.open('e', 0));
        Check.fails("20 no walk, no steps", Check.BOUNDS, () -> x.goOn(4, 0));
        Check.fails("20 no walk below, too many", Check.BOUNDS, () -> x.goOn(-1, 201));
        Check.fails("20 no steps", Check.ILLEGAL, () -> x.goOn(3, 0));
        Check.fails("22 no walk, no place", Check.BOUNDS, () -> x.foundAt(4, -1));
        Check.fails("22 no walk, the least", Check.BOUNDS, () -> x.foundAt(MIN, MIN));
        Check.fails("22 no place", Check.NO_SUCH, () -> x.foundAt(0, -1));
    }

    private static void closuresAndRules() {
        GristGraph x = ofNodes(2);
        x.node(1, 5);
        x.node(1, 5);
        x.edge(2, 0, 0, 1);
        for (int i = 0; i < 4; i++) {
            x.closure(0);
        }
        Check.fails("24 range, full", Check.ILLEGAL, () -> x.closure(4));
        Check.fails("24 below, full", Check.ILLEGAL, () -> x.closure(MIN));
        Check.fails("24 full", Check.STATE, () -> x.closure(0));
        Check.fails("28 range, broken", Check.ILLEGAL, () -> x.degrees(true, 0, 0, 9, 10));
        Check.fails("28 kind, broken", Check.ILLEGAL, () -> x.degrees(true, 0, 4, 1, 9));
        Check.fails("29 letter, broken", Check.ILLEGAL, () -> x.rule('U', 1));
        Check.fails("29 kind, broken", Check.ILLEGAL, () -> x.rule('a', 4));
        for (int i = 0; i < 6; i++) {
            x.rule('u', 0);
        }
        Check.fails("28 range, full", Check.ILLEGAL, () -> x.degrees(true, 0, 0, 1, 0));
        Check.fails("28 broken, full", Check.REFUSED, () -> x.degrees(true, 0, 0, 1, 9));
        Check.fails("28 broken in, full", Check.REFUSED, () -> x.degrees(false, 0, 2, 0, 0));
        Check.fails("28 all", Check.ILLEGAL, () -> x.degrees(true, 0, 0, 10, 9));
        Check.fails("28 full", Check.STATE, () -> x.degrees(true, 0, 0, 0, 9));
        Check.fails("29 letter, full", Check.ILLEGAL, () -> x.rule('i', 0));
        Check.fails("29 kind, full", Check.ILLEGAL, () -> x.rule('u', MAX));
        Check.fails("29 like values, full", Check.REFUSED, () -> x.rule('u', 1));
        Check.fails("29 ring, full", Check.REFUSED, () -> x.rule('a', 2));
        Check.fails("29 all", Check.ILLEGAL, () -> x.rule('x', 1));
        Check.fails("29 full", Check.STATE, () -> x.rule('a', 1));
    }

    private static void transactions() {
        GristGraph x = ofNodes(1);
        for (int i = 0; i < 20; i++) {
            Check.same("30 begun", x.begin(), i);
            if (i < 17) {
                x.abort(i);
            }
        }
        Check.fails("30 three are open, twenty were begun", Check.STATE, () -> x.begin());
        x.abort(17);
        Check.fails("30 twenty were begun", Check.STATE, () -> x.begin());
        GristGraph y = ofNodes(1);
        for (int i = 0; i < 3; i++) {
            y.begin();
        }
        Check.fails("30 three are open", Check.STATE, () -> y.begin());
    }

    private static void watches() {
        GristGraph x = crowded();
        Check.fails("34 no node, no way", Check.BOUNDS, () -> x.watch('x', 3));
        Check.fails("34 no way, too many", Check.ILLEGAL, () -> x.watch('x', 0));
        for (int i = 0; i < 4; i++) {
            x.watch('e', 1);
        }
        Check.fails("34 no node, full", Check.BOUNDS, () -> x.watch('e', 3));
        Check.fails("34 no way, full", Check.ILLEGAL, () -> x.watch('x', 1));
        Check.fails("34 too many, full", Check.REFUSED, () -> x.watch('e', 0));
        Check.fails("34 no way, too many, full", Check.ILLEGAL, () -> x.watch('x', 0));
        Check.fails("34 no node, no way, full", Check.BOUNDS, () -> x.watch('x', MIN));
        Check.fails("34 full", Check.STATE, () -> x.watch('e', 1));
    }

    private static void figures() {
        GristGraph x = ofNodes(3);
        x.dropNode(2);
        Check.fails("36 no node, no way", Check.BOUNDS, () -> x.cost(0, 2));
        Check.fails("36 no node, the same", Check.BOUNDS, () -> x.cost(2, 2));
        Check.fails("36 no way", Check.NO_SUCH, () -> x.cost(0, 1));
        Check.fails("37 no node, the same", Check.BOUNDS, () -> x.flow(2, 2));
        Check.fails("37 never made, the same", Check.BOUNDS, () -> x.flow(MAX, MAX));
        Check.fails("37 the same", Check.ILLEGAL, () -> x.flow(1, 1));
    }
}
