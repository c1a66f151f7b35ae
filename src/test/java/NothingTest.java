/** What holds of nothing, of the empty row, and of a thing that is gone or over. */
public final class NothingTest {
    private NothingTest() { }

    private interface Ending {
        char of(GristGraph x);
    }

    public static void main(String[] args) {
        newStore();
        newStoreKeepsThings();
        nodesWithoutEdges();
        viewsOfNothing();
        emptyRowWithoutSteps();
        emptyRowAsAsked();
        emptyRowOfWalks();
        emptyRowOfWatches();
        stepsThatNeverRepeat();
        transactionsOfNothing();
        nodesThatAreGone();
        nodesGoneInTransactionsOnly();
        edgesThatAreGone();
        walksOfWhatIsGone();
        closuresOfWhatIsGone();
        answersOfWhatIsGone();
        rulesOfWhatIsGone();
        transactionsThatAreOver();
        Check.end();
    }

    private static GristGraph ofNodes(int count) {
        GristGraph x = new GristGraph();
        for (int i = 0; i < count; i++) {
            x.node(0, i);
        }
        return x;
    }

    private static void told(String what, GristGraph x, int found, int lost) {
        Check.same("35 found " + what, x.news(0, true), found);
        Check.same("35 lost " + what, x.news(0, false), lost);
    }

    // ---- nothing

    private static void newStore() {
        GristGraph x = new GristGraph();
        Check.same("1 nodes", x.nodes(), 0);
        Check.same("1 edges", x.edges(), 0);
        Check.same("1 no view is used", x.through(-1), -1);
        Check.same("1 no transaction is used", x.use(-1), -1);
        Check.same("1 no steps", x.wipe(), 0);
        Check.same("1 checksum", x.checksum(), 7L);
        Check.same("1 sound", x.isSound(), true);
        Check.fails("1 density", Check.ARITHMETIC, () -> x.density());
        Check.fails("1 meanWeight", Check.ARITHMETIC, () -> x.meanWeight());
        Check.fails("1 no view", Check.BOUNDS, () -> x.through(0));
        Check.fails("1 no transaction", Check.BOUNDS, () -> x.use(0));
        Check.fails("1 none to commit", Check.BOUNDS, () -> x.commit(0));
        Check.fails("1 none to give up", Check.BOUNDS, () -> x.abort(0));
        Check.fails("1 no walk", Check.BOUNDS, () -> x.goOn(0, 1));
        Check.fails("1 no walk found", Check.BOUNDS, () -> x.found(0));
        Check.fails("1 no walk foundAt", Check.BOUNDS, () -> x.foundAt(0, 0));
        Check.fails("1 no walk's steps", Check.BOUNDS, () -> x.steps(0));
        Check.fails("1 no closure", Check.BOUNDS, () -> x.pairs(0));
        Check.fails("1 no closure's changes", Check.BOUNDS, () -> x.changes(0, true));
        Check.fails("1 no closure's pair", Check.BOUNDS, () -> x.reaches(0, 0, 0));
        Check.fails("1 no watch", Check.BOUNDS, () -> x.news(0, true));
        noSuchNode("1 ", x, 0);
        noSuchEdge("1 ", x, 0);
    }

    /** In all calls that take a node, in the graph and through the view in use. */
    private static void noSuchNode(String what, GristGraph x, int node) {
        Check.fails(what + "edge from", Check.BOUNDS, () -> x.edge(0, node, node, 1));
        Check.fails(what + "dropNode", Check.BOUNDS, () -> x.dropNode(node));
        Check.fails(what + "set", Check.BOUNDS, () -> x.set(node, 0));
        notSeen(what, x, node);
    }

    private static void notSeen(String what, GristGraph x, int node) {
        Check.fails(what + "ofNode", Check.BOUNDS, () -> x.ofNode(node, 'v'));
        Check.fails(what + "matches", Check.BOUNDS, () -> x.matches('e', node, -1));
        Check.fails(what + "shortest", Check.BOUNDS, () -> x.shortest('n', node, -1));
        Check.fails(what + "allShortest", Check.BOUNDS, () -> x.allShortest('e', node, -1));
        Check.fails(what + "matchAt", Check.BOUNDS, () -> x.matchAt('n', node, 0, 0));
        Check.fails(what + "open", Check.BOUNDS, () -> x.open('e', node));
        Check.fails(what + "cost", Check.BOUNDS, () -> x.cost(node, node));
        Check.fails(what + "flow", Check.BOUNDS, () -> x.flow(node, node));
    }

    /** Where another node is there: that to which it would come, or the other way round. */
    private static void notSeenFrom(String what, GristGraph x, int there, int node) {
        Check.fails(what + "matches to", Check.BOUNDS, () -> x.matches('e', there, node));
        Check.fails(what + "shortest to", Check.BOUNDS, () -> x.shortest('n', there, node));
        Check.fails(what + "allShortest to", Check.BOUNDS, () -> x.allShortest('e', there, node));
        Check.fails(what + "cost to", Check.BOUNDS, () -> x.cost(there, node));
        Check.fails(what + "cost from", Check.BOUNDS, () -> x.cost(node, there));
        Check.fails(what + "flow to", Check.BOUNDS, () -> x.flow(there, node));
        Check.fails(what + "flow from", Check.BOUNDS, () -> x.flow(node, there));
    }

    private static void noSuchEdge(String what, GristGraph x, int edge) {
        Check.fails(what + "dropEdge", Check.BOUNDS, () -> x.dropEdge(edge));
        Check.fails(what + "ofEdge", Check.BOUNDS, () -> x.ofEdge(edge, 'w'));
    }

    private static void newStoreKeepsThings() {
        GristGraph x = new GristGraph();
        Check.same("24 a closure of nothing", x.closure(0), 0);
        Check.same("26 no pairs", x.pairs(0), 0);
        Check.same("27 none came", x.changes(0, true), 0);
        Check.same("27 none went", x.changes(0, false), 0);
        Check.same("28 nothing breaks it", x.degrees(true, 0, 0, 9, 9), 0);
        Check.same("29 nothing has like values", x.rule('u', 0), 1);
        Check.same("29 nothing makes a ring", x.rule('a', 0), 2);
        Check.same("41 sound", x.isSound(), true);
        Check.same("40 with its closure", x.checksum(), 7L * 31L);
        Check.same("11 a view of nothing", x.view(15, 15), 0);
        x.through(0);
        Check.same("7 nothing in it", x.nodes(), 0);
        Check.fails("34 no node to watch", Check.BOUNDS, () -> x.watch('e', 0));
        Check.same("30 begun on nothing", x.begin(), 0);
        x.use(0);
        Check.same("7 nothing in that", x.nodes(), 0);
        Check.same("32 nothing to be done", x.commit(0), 'c');
        Check.same("41 sound still", x.isSound(), true);
    }

    private static void nodesWithoutEdges() {
        GristGraph x = ofNodes(2);
        Check.same("9 none out", x.ofNode(0, 'o'), 0);
        Check.same("9 none in", x.ofNode(0, 'i'), 0);
        Check.fails("39 no edges", Check.ARITHMETIC, () -> x.meanWeight());
        Check.same("38 no pairs", x.density(), 0.0f);
        Check.same("36 to the same", x.cost(0, 0), 0);
        Check.fails("36 to another one", Check.NO_SUCH, () -> x.cost(0, 1));
        Check.same("37 nothing flows", x.flow(0, 1), 0);
        x.closure(0);
        Check.same("26 no pairs", x.pairs(0), 0);
        Check.same("25 not to itself", x.reaches(0, 0, 0), false);
        x.step(-1, 'f', 1, 1, -1, -999);
        Check.same("15 no rows", x.matches('e', 0, -1), 0);
        Check.fails("16 no rows", Check.NO_SUCH, () -> x.shortest('e', 0, -1));
        Check.same("17 no rows", x.allShortest('e', 0, -1), 0);
        Check.fails("18 no rows", Check.NO_SUCH, () -> x.matchAt('e', 0, 0, 0));
        x.open('e', 0);
        Check.same("20 no rows", x.goOn(0, 1), 'e');
        Check.same("20 no rows again", x.goOn(0, 200), 'e');
        Check.same("23 no step", x.steps(0), 0);
        Check.same("21 nothing found", x.found(0), 0);
        Check.fails("22 nothing found", Check.NO_SUCH, () -> x.foundAt(0, 0));
        Check.same("4 no edge goes", x.dropNode(0), 0);
        Check.same("4 no edge goes with the last", x.dropNode(1), 0);
        Check.fails("38 no nodes any more", Check.ARITHMETIC, () -> x.density());
        Check.same("40 nothing but the closure", x.checksum(), 7L * 31L);
    }

    /** Kinds of nodes or of edges that are none: edges are there with both their nodes only. */
    private static void viewsOfNothing() {
        GristGraph x = ofNodes(2);
        x.node(1, 2);
        x.edge(0, 0, 1, 5);
        x.edge(0, 0, 2, 5);
        x.edge(0, 2, 2, 5);
        x.view(0, 15);
        x.view(15, 0);
        x.view(14, 15);
        x.view(1, 15);
        x.through(0);
        Check.same("7 no nodes", x.nodes(), 0);
        Check.same("8 no edges without nodes", x.edges(), 0);
        Check.fails("38 no nodes", Check.ARITHMETIC, () -> x.density());
        Check.fails("39 no edges", Check.ARITHMETIC, () -> x.meanWeight());
        notSeen("12 no node, ", x, 0);
        Check.fails("10 no edge", Check.BOUNDS, () -> x.ofEdge(0, 'k'));
        x.through(1);
        Check.same("7 all nodes", x.nodes(), 3);
        Check.same("8 no edges", x.edges(), 0);
        Check.same("9 none out", x.ofNode(0, 'o'), 0);
        Check.same("38 no pairs", x.density(), 0.0f);
        Check.fails("39 none", Check.ARITHMETIC, () -> x.meanWeight());
        Check.same("37 nothing flows", x.flow(0, 1), 0);
        Check.fails("10 no edge of these kinds", Check.BOUNDS, () -> x.ofEdge(0, 'k'));
        x.through(2);
        Check.same("7 the one of kind 1", x.nodes(), 1);
        Check.same("8 its loop, and no edge with one node", x.edges(), 1);
        Check.same("9 one in", x.ofNode(2, 'i'), 1);
        notSeenFrom("12 not of these kinds, ", x, 2, 0);
        x.through(3);
        Check.same("8 those of both nodes", x.edges(), 1);
        Check.same("9 one out", x.ofNode(0, 'o'), 1);
        notSeenFrom("12 of another kind, ", x, 0, 2);
        Check.same("40 of all", x.checksum() == 7L, false);
    }

    // ---- the empty row

    /** "Without steps the empty row alone matches." */
    private static void emptyRowWithoutSteps() {
        GristGraph x = ofNodes(2);
        x.edge(0, 0, 1, 1);
        x.edge(0, 0, 0, 1);
        for (char way : new char[] {'e', 'n'}) {
            Check.same("15 one", x.matches(way, 0, -1), 1);
            Check.same("15 to itself", x.matches(way, 0, 0), 1);
            Check.same("15 not to another one", x.matches(way, 0, 1), 0);
            Check.same("16 its length", x.shortest(way, 0, -1), 0);
            Check.same("16 its length, to itself", x.shortest(way, 0, 0), 0);
            Check.fails("16 to another one", Check.NO_SUCH, () -> x.shortest(way, 0, 1));
            Check.same("17 alone", x.allShortest(way, 0, -1), 1);
            Check.same("17 to another one", x.allShortest(way, 0, 1), 0);
            Check.fails("18 it has no place", Check.NO_SUCH, () -> x.matchAt(way, 0, 0, 0));
            Check.fails("18 it is alone", Check.NO_SUCH, () -> x.matchAt(way, 0, 1, 0));
        }
    }

    /** "behind each step the node there must be as asked, without repeats the node ahead of it" */
    private static void emptyRowAsAsked() {
        GristGraph x = ofNodes(2);
        x.node(1, 5);
        x.edge(0, 0, 2, 1);
        x.step(0, 'f', 0, 1, 0, 1);
        Check.same("15 its value is less", x.matches('e', 0, 0), 0);
        Check.same("15 its value is just so", x.matches('e', 1, 1), 1);
        Check.same("15 of another kind", x.matches('e', 2, 2), 0);
        x.step(-1, 'b', 0, 4, -1, 2);
        Check.same("15 as the first asks, not the second", x.matches('e', 1, 1), 0);
        x.set(1, 2);
        Check.same("15 as both ask", x.matches('e', 1, 1), 1);
        x.step(0, 'f', 0, 0, 0, 2);
        x.step(3, 'b', 0, 0, -1, -999);
        Check.same("15 as all four ask", x.matches('n', 1, -1), 1);
        x.wipe();
        x.step(0, 'f', 0, 1, -1, -999);
        x.step(0, 'f', 1, 1, -1, -999);
        Check.same("15 one step has to be repeated", x.matches('e', 1, -1), 0);
        Check.same("17 the shortest is not empty", x.shortest('e', 0, -1), 1);
        x.wipe();
        x.step(-1, 'f', 0, 4, -1, 999);
        x.set(1, 999);
        Check.same("15 the greatest value", x.matches('e', 1, 1), 1);
        x.set(1, 998);
        Check.same("15 one less", x.matches('e', 1, 1), 0);
        x.wipe();
        x.set(1, -999);
        x.step(-1, 'f', 0, 4, -1, -999);
        Check.same("15 the least value", x.matches('e', 1, 1), 1);
        x.wipe();
        x.step(-1, 'f', 0, 4, -1, -998);
        Check.same("15 one more is asked", x.matches('e', 1, 1), 0);
    }

    /** "The empty row, if it matches, is found first, without a step." */
    private static void emptyRowOfWalks() {
        GristGraph x = ofNodes(3);
        x.edge(0, 0, 1, 1);
        x.edge(0, 1, 2, 1);
        x.open('e', 0);
        x.step(0, 'f', 0, 1, -1, 0);
        x.open('e', 0);
        x.wipe();
        x.step(0, 'f', 0, 1, -1, 1);
        x.open('n', 0);
        x.open('n', 2);
        Check.same("20 without steps", x.goOn(0, 200), 'f');
        Check.same("20 none is left behind it", x.goOn(0, 1), 'e');
        Check.same("21 it is one", x.found(0), 1);
        Check.same("23 without a step", x.steps(0), 0);
        Check.fails("22 it has no place", Check.NO_SUCH, () -> x.foundAt(0, 0));
        Check.same("20 ahead of the others", x.goOn(1, 1), 'f');
        Check.same("23 not a step yet", x.steps(1), 0);
        Check.fails("22 no place yet", Check.NO_SUCH, () -> x.foundAt(1, 0));
        Check.same("20 then the others", x.goOn(1, 1), 'f');
        Check.same("23 one step", x.steps(1), 1);
        Check.same("22 its place", x.foundAt(1, 0), 0);
        Check.same("20 then none", x.goOn(1, 1), 'e');
        Check.same("21 two", x.found(1), 2);
        Check.same("20 not as asked, the other one is found", x.goOn(2, 1), 'f');
        Check.same("21 one", x.found(2), 1);
        Check.same("23 by a step", x.steps(2), 1);
        Check.same("20 as asked where no edge goes on", x.goOn(3, 1), 'f');
        Check.same("20 none goes on", x.goOn(3, 1), 'e');
        Check.same("23 no step", x.steps(3), 0);
    }

    private static void emptyRowOfWatches() {
        GristGraph x = ofNodes(2);
        x.watch('n', 0);
        x.set(0, 500);
        told("there at its beginning", x, 0, 0);
        x.begin();
        x.use(0);
        x.dropNode(0);
        told("not by an open one", x, 0, 0);
        x.commit(0);
        told("with its node", x, 0, 1);
        GristGraph y = ofNodes(1);
        y.step(2, 'b', 0, 4, 0, 10);
        y.watch('e', 0);
        y.set(0, 9);
        told("not as asked yet", y, 0, 0);
        y.set(0, 10);
        told("as asked", y, 1, 0);
        y.set(0, 11);
        told("as asked still", y, 1, 0);
        y.set(0, 9);
        told("not any more", y, 1, 1);
    }

    /** "a least and a greatest number of repeats, 0 to 4": 0 to 0 is a step without any. */
    private static void stepsThatNeverRepeat() {
        GristGraph x = ofNodes(3);
        x.edge(0, 0, 1, 1);
        x.edge(0, 1, 2, 1);
        x.step(0, 'f', 0, 0, -1, -999);
        Check.same("15 the empty row", x.matches('e', 0, -1), 1);
        x.open('e', 0);
        Check.same("20 the empty row", x.goOn(0, 1), 'f');
        Check.same("20 no other", x.goOn(0, 1), 'e');
        x.step(0, 'f', 1, 1, -1, -999);
        Check.same("15 then one", x.matches('e', 0, -1), 1);
        Check.same("16 then one", x.shortest('e', 0, 1), 1);
        x.step(0, 'f', 0, 0, -1, 2);
        Check.same("15 it asks of the node ahead", x.matches('e', 0, -1), 0);
        Check.same("15 that is as asked", x.matches('e', 1, -1), 1);
    }

    private static void transactionsOfNothing() {
        GristGraph x = ofNodes(2);
        x.edge(0, 0, 1, 1);
        x.closure(0);
        x.watch('e', 0);
        long sum = x.checksum();
        x.begin();
        x.begin();
        x.use(0);
        Check.same("32 without doings, used", x.commit(0), 'c');
        Check.same("32 none is used then", x.use(-1), -1);
        Check.same("40 nothing is done", x.checksum(), sum);
        x.set(0, 5);
        Check.same("33 without doings", x.abort(1), 0);
        x.begin();
        x.dropNode(0);
        Check.same("32 without doings, whatever came", x.commit(2), 'c');
        Check.same("7 nothing comes back", x.nodes(), 1);
        Check.same("27 nothing came", x.changes(0, true), 0);
        Check.same("27 one pair went", x.changes(0, false), 1);
    }

    // ---- what is gone

    private static void nodesThatAreGone() {
        GristGraph x = ofNodes(3);
        x.edge(0, 0, 1, 1);
        x.edge(0, 1, 2, 2);
        x.edge(0, 1, 1, 3);
        x.edge(0, 2, 0, 4);
        Check.same("4 three edges go, the loop once", x.dropNode(1), 3);
        noSuchNode("4 gone, ", x, 1);
        notSeenFrom("4 gone, ", x, 0, 1);
        Check.fails("4 no edge to it", Check.BOUNDS, () -> x.edge(0, 0, 1, 1));
        Check.fails("4 no edge from it", Check.BOUNDS, () -> x.edge(0, 1, 0, 1));
        Check.fails("4 no watch", Check.BOUNDS, () -> x.watch('e', 1));
        for (int edge = 0; edge < 3; edge++) {
            noSuchEdge("4 gone with it, ", x, edge);
        }
        Check.same("10 the other edge is there", x.ofEdge(3, 'w'), 4);
        Check.same("9 none out of 0", x.ofNode(0, 'o'), 0);
        Check.same("9 one into 0", x.ofNode(0, 'i'), 1);
        Check.same("38 of two nodes", x.density(), 0.25f);
        Check.same("39 of one edge", x.meanWeight(), 4.0);
        Check.same("2 its number is never given again", x.node(0, 1), 3);
        Check.same("3 nor those of its edges", x.edge(0, 3, 0, 1), 4);
        noSuchNode("4 gone still, ", x, 1);
    }

    private static void nodesGoneInTransactionsOnly() {
        GristGraph x = ofNodes(3);
        x.edge(0, 0, 1, 1);
        x.closure(0);
        x.begin();
        x.use(0);
        x.dropNode(0);
        int made = x.node(0, 7);
        noSuchNode("4 gone in it, ", x, 0);
        noSuchEdge("4 gone in it, ", x, 0);
        Check.same("34 but not in the shared graph", x.watch('e', 0), 0);
        Check.same("25 but not in the shared graph", x.reaches(0, 0, 1), true);
        Check.fails("34 not made in the shared graph", Check.BOUNDS, () -> x.watch('e', made));
        Check.fails("25 not made in the shared graph", Check.BOUNDS, () -> x.reaches(0, 1, made));
        x.use(-1);
        noSuchNode("2 not made here, ", x, made);
        Check.same("9 there still", x.ofNode(0, 'o'), 1);
        Check.same("32 committed", x.commit(0), 'c');
        noSuchNode("4 gone by now, ", x, 0);
        Check.same("9 made by now", x.ofNode(made, 'v'), 7);
        Check.fails("25 gone by now", Check.BOUNDS, () -> x.reaches(0, 0, 1));
    }

    private static void edgesThatAreGone() {
        GristGraph x = ofNodes(2);
        x.edge(0, 0, 1, 1);
        x.edge(0, 0, 1, 2);
        x.step(0, 'f', 1, 1, -1, -999);
        x.dropEdge(0);
        noSuchEdge("5 gone, ", x, 0);
        Check.same("9 one is left", x.ofNode(0, 'o'), 1);
        Check.same("15 one is left", x.matches('e', 0, -1), 1);
        Check.same("18 it is first by now", x.matchAt('e', 0, 0, 0), 1);
        Check.same("36 by the one left", x.cost(0, 1), 2);
        Check.same("37 by the one left", x.flow(0, 1), 2);
        x.begin();
        x.use(0);
        int made = x.edge(0, 1, 0, 9);
        x.dropEdge(1);
        noSuchEdge("5 gone in it, ", x, 1);
        x.use(-1);
        Check.same("10 there still", x.ofEdge(1, 'w'), 2);
        noSuchEdge("3 not made here, ", x, made);
        x.abort(0);
        Check.same("10 there when that is over", x.ofEdge(1, 'w'), 2);
        noSuchEdge("3 made in one given up, ", x, made);
        Check.same("3 its number is never given again", x.edge(0, 0, 0, 1), made + 1);
    }

    /** "in the graph and through the view of the moment at which it was opened" */
    private static void walksOfWhatIsGone() {
        GristGraph x = ofNodes(3);
        x.edge(0, 0, 1, 1);
        x.edge(0, 1, 2, 1);
        x.step(0, 'f', 1, 2, -1, -999);
        x.begin();
        x.use(0);
        x.edge(0, 0, 2, 1);
        x.open('n', 0);
        x.abort(0);
        x.open('n', 0);
        x.view(15, 0);
        x.through(0);
        x.open('n', 0);
        x.through(-1);
        x.dropNode(0);
        x.dropNode(1);
        x.wipe();
        Check.same("20 its node is gone", x.goOn(1, 9), 'f');
        Check.same("22 its edge is gone", x.foundAt(1, 0), 0);
        Check.same("20 another node is gone", x.goOn(1, 9), 'f');
        Check.same("22 another edge is gone", x.foundAt(1, 1), 1);
        Check.same("20 to its end", x.goOn(1, 9), 'e');
        Check.same("20 its transaction is over", x.goOn(0, 1), 'f');
        Check.same("20 its transaction is over, on", x.goOn(0, 1), 'f');
        Check.same("20 an edge that never came", x.goOn(0, 1), 'f');
        Check.same("22 that edge", x.foundAt(0, 0), 2);
        Check.same("20 to its end too", x.goOn(0, 1), 'e');
        Check.same("20 its view is not used", x.goOn(2, 1), 'e');
        Check.same("23 no step in its view", x.steps(2), 0);
    }

    /** "A deleted edge takes away only those pairs of a closure that have no other way" */
    private static void closuresOfWhatIsGone() {
        GristGraph x = ofNodes(3);
        x.edge(1, 0, 1, 1);
        x.edge(1, 0, 1, 1);
        x.edge(1, 1, 1, 1);
        x.edge(1, 1, 2, 1);
        x.closure(1);
        Check.same("26 pairs", x.pairs(0), 4);
        x.dropEdge(0);
        Check.same("26 another edge is there", x.pairs(0), 4);
        Check.same("27 none went", x.changes(0, false), 0);
        x.dropEdge(2);
        Check.same("25 the loop is gone", x.reaches(0, 1, 1), false);
        Check.same("25 the way over it is not", x.reaches(0, 0, 2), true);
        Check.same("27 one went", x.changes(0, false), 1);
        x.dropEdge(1);
        Check.same("25 no other way", x.reaches(0, 0, 2), false);
        Check.same("26 one is left", x.pairs(0), 1);
        Check.same("27 three went", x.changes(0, false), 3);
        x.dropNode(2);
        Check.same("26 none is left", x.pairs(0), 0);
        Check.same("27 four went", x.changes(0, false), 4);
        Check.same("27 none came", x.changes(0, true), 0);
        Check.fails("25 a node that is gone", Check.BOUNDS, () -> x.reaches(0, 0, 2));
        Check.same("41 sound", x.isSound(), true);
    }

    /** "which are 0 if a node is not there" */
    private static void answersOfWhatIsGone() {
        for (int to = -1; to < 2; to++) {
            // A match is there at its beginning, and its nodes are gone by now.
            GristGraph x = ofNodes(2);
            x.edge(0, 0, 1, 1);
            x.step(0, 'f', to == 0 ? 0 : 1, 1, -1, -999);
            x.begin();
            x.use(0);
            Check.same("15 one", x.matches('e', 0, to), 1);
            x.use(-1);
            x.dropNode(0);
            Check.same("32 by now 0", x.commit(0), 'p');
            // None is there at its beginning, and its nodes are gone by now: 0 both times.
            GristGraph y = ofNodes(3);
            y.edge(0, 0, 1, 1);
            y.step(0, 'f', 1, 1, -1, -999);
            y.begin();
            y.use(0);
            Check.same("15 none", y.matches('e', 2, to), 0);
            y.use(-1);
            y.dropNode(to == 1 ? 1 : 2);
            Check.same("32 0 as before", y.commit(0), 'c');
        }
        // Its node is not there at its beginning: 0 both times, though one inside.
        GristGraph z = ofNodes(1);
        z.begin();
        z.use(0);
        int made = z.node(0, 1);
        Check.same("15 of a node made in it", z.matches('e', made, -1), 1);
        Check.same("15 to a node made in it", z.matches('e', made, made), 1);
        Check.same("15 to it from another one", z.matches('e', 0, made), 0);
        z.use(-1);
        z.set(0, 9);
        Check.same("32 0 both times", z.commit(0), 'c');
        Check.same("7 made by now", z.nodes(), 2);
        // More than 3000 rows, but the node to which they come is gone: 0, not refused.
        GristGraph w = ofNodes(3);
        for (int i = 0; i < 16; i++) {
            w.edge(0, 0, 0, 1);
        }
        w.step(0, 'f', 0, 3, -1, -999);
        w.begin();
        w.begin();
        w.use(0);
        for (int i = 0; i < 8; i++) {
            w.dropEdge(i);
        }
        Check.same("15 none to node 2", w.matches('e', 0, 2), 0);
        w.use(-1);
        w.dropNode(2);
        Check.same("32 refused at its beginning, 0 by now", w.commit(0), 'p');
        w.begin();
        w.use(2);
        for (int i = 0; i < 8; i++) {
            w.dropEdge(i);
        }
        w.node(0, 5);
        Check.same("15 none to node 3", w.matches('e', 0, 3), 0);
        w.use(-1);
        w.set(1, 8);
        Check.same("32 not there both times, not refused", w.commit(2), 'c');
    }

    private static void rulesOfWhatIsGone() {
        GristGraph x = ofNodes(2);
        x.edge(0, 0, 1, 1);
        x.rule('u', 0);
        x.rule('a', 0);
        x.degrees(true, 0, 0, 0, 1);
        x.dropNode(1);
        Check.same("29 the value of a node that is gone", x.node(0, 1), 2);
        Check.same("28 the edge of a node that is gone", x.edge(0, 0, 2, 1), 1);
        x.dropEdge(1);
        Check.same("29 the way back of an edge that is gone", x.edge(0, 2, 0, 1), 2);
        Check.same("6 one's own value", x.set(2, 1), 1);
        Check.fails("6 the other one's", Check.REFUSED, () -> x.set(2, 0));
        x.dropNode(0);
        Check.same("6 when that is gone", x.set(2, 0), 1);
    }

    /** "In all cases it is over", and "if it is used, none is used then". */
    private static void transactionsThatAreOver() {
        over("given up", 'a', x -> {
            x.set(0, 5);
            return x.abort(0) == 1 ? 'a' : '-';
        });
        over("committed", 'c', x -> {
            x.set(0, 5);
            return x.commit(0);
        });
        over("crossed", 'w', x -> {
            x.set(0, 5);
            x.use(-1);
            x.set(0, 6);
            x.use(0);
            return x.commit(0);
        });
        over("of another answer", 'p', x -> {
            x.matches('e', 0, -1);
            x.use(-1);
            x.dropNode(0);
            x.use(0);
            return x.commit(0);
        });
        over("breaking a rule", 's', x -> {
            x.rule('u', 0);
            x.set(0, 1);
            return x.commit(0);
        });
    }

    private static void over(String what, char due, Ending ending) {
        GristGraph x = ofNodes(2);
        x.begin();
        x.begin();
        x.use(0);
        Check.same("32 33 " + what, ending.of(x), due);
        Check.same("32 33 none is used, " + what, x.use(-1), -1);
        Check.fails("31 over, " + what, Check.BOUNDS, () -> x.use(0));
        Check.fails("32 over, " + what, Check.BOUNDS, () -> x.commit(0));
        Check.fails("33 over, " + what, Check.BOUNDS, () -> x.abort(0));
        Check.same("31 the other one is open, " + what, x.use(1), -1);
        Check.same("31 as it was when it was begun, " + what, x.ofNode(0, 'v'), 0);
    }
}
