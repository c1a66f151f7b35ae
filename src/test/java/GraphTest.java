/** Promises 1 to 12: nodes, edges, what is told of them, and views. */
public final class GraphTest {
    private static final Class<IllegalArgumentException> ILLEGAL = IllegalArgumentException.class;
    private static final Class<IllegalStateException> STATE = IllegalStateException.class;
    private static final Class<IndexOutOfBoundsException> BOUNDS = IndexOutOfBoundsException.class;
    private static final Class<UnsupportedOperationException> REFUSED =
            UnsupportedOperationException.class;

    private GraphTest() { }

    public static void main(String[] args) {
        newObject();
        nodesAreMade();
        nodesAreBounded();
        nodesAreRefused();
        edgesAreMade();
        edgesAreBounded();
        edgesAreRefused();
        nodesAreDropped();
        edgesAreDropped();
        valuesAreSet();
        numbersOfAll();
        thingsOfNodes();
        thingsOfEdges();
        viewsAreMade();
        viewsAreUsed();
        doingsGoPastViews();
        Check.end();
    }

    private static void newObject() {
        GristGraph x = new GristGraph();
        Check.same("1 nodes", x.nodes(), 0);
        Check.same("1 edges", x.edges(), 0);
        Check.same("1 wipe", x.wipe(), 0);
        Check.same("1 through", x.through(-1), -1);
        Check.same("1 use", x.use(-1), -1);
        Check.same("1 checksum", x.checksum(), 7L);
        Check.same("1 isSound", x.isSound(), true);
        Check.fails("1 ofNode", BOUNDS, () -> x.ofNode(0, 'k'));
    }

    private static void nodesAreMade() {
        GristGraph x = new GristGraph();
        Check.same("2 first", x.node(0, -999), 0);
        Check.same("2 second", x.node(3, 999), 1);
        Check.same("2 kind", x.ofNode(1, 'k'), 3);
        Check.same("2 value", x.ofNode(0, 'v'), -999);
        Check.fails("2 kind -1", ILLEGAL, () -> x.node(-1, 0));
        Check.fails("2 kind 4", ILLEGAL, () -> x.node(4, 0));
        Check.fails("2 value -1000", ILLEGAL, () -> x.node(0, -1000));
        Check.fails("2 value 1000", ILLEGAL, () -> x.node(0, 1000));
        Check.same("2 third", x.node(1, 0), 2);
        x.dropNode(2);
        Check.same("2 never given again", x.node(1, 0), 3);
        x.begin();
        x.use(0);
        Check.same("2 in a transaction", x.node(1, 1), 4);
        x.abort(0);
        Check.same("2 behind an aborted one", x.node(1, 2), 5);
        Check.fails("2 the aborted one", BOUNDS, () -> x.ofNode(4, 'k'));
    }

    private static void nodesAreBounded() {
        GristGraph x = new GristGraph();
        for (int i = 0; i < 14; i++) {
            Check.same("2 node", x.node(0, i), i);
        }
        Check.fails("2 fifteenth", STATE, () -> x.node(0, 0));
        Check.fails("2 out of range first", ILLEGAL, () -> x.node(4, 0));
        x.dropNode(13);
        Check.fails("2 fourteen were made", STATE, () -> x.node(0, 0));
        x.rule('u', 0);
        Check.fails("2 rules ahead of bounds", REFUSED, () -> x.node(0, 5));
        Check.fails("2 rule kept, none left", STATE, () -> x.node(0, 500));
        x.begin();
        x.use(0);
        Check.fails("2 no rule in a transaction", STATE, () -> x.node(0, 5));
        Check.same("2 nodes", x.nodes(), 13);
    }

    private static void nodesAreRefused() {
        GristGraph x = new GristGraph();
        x.node(1, 5);
        x.rule('u', 1);
        Check.fails("2 like value", REFUSED, () -> x.node(1, 5));
        Check.same("2 other kind", x.node(2, 5), 1);
        Check.same("2 unlike value", x.node(1, 6), 2);
        x.degrees(true, 0, 0, 1, 9);
        Check.fails("2 without an edge", REFUSED, () -> x.node(0, 1));
        x.begin();
        x.use(0);
        Check.same("2 rules aside", x.node(0, 1), 3);
        Check.same("2 shared is as it was", shared(x).nodes(), 3);
    }

    private static GristGraph shared(GristGraph x) {
        x.use(-1);
        return x;
    }

    private static void edgesAreMade() {
        GristGraph x = new GristGraph();
        x.node(0, 0);
        x.node(0, 0);
        Check.same("3 first", x.edge(0, 0, 1, 1), 0);
        Check.same("3 parallel", x.edge(3, 0, 1, 99), 1);
        Check.same("3 to itself", x.edge(0, 1, 1, 5), 2);
        Check.fails("3 from", BOUNDS, () -> x.edge(0, 2, 1, 1));
        Check.fails("3 to", BOUNDS, () -> x.edge(0, 1, -1, 1));
        Check.fails("3 kind 4", ILLEGAL, () -> x.edge(4, 0, 1, 1));
        Check.fails("3 kind -1", ILLEGAL, () -> x.edge(-1, 0, 1, 1));
        Check.fails("3 weight 0", ILLEGAL, () -> x.edge(0, 0, 1, 0));
        Check.fails("3 weight 100", ILLEGAL, () -> x.edge(0, 0, 1, 100));
        Check.fails("3 node first", BOUNDS, () -> x.edge(4, 0, 9, 0));
        x.dropEdge(2);
        Check.same("3 never given again", x.edge(0, 0, 0, 1), 3);
        Check.same("3 edges", x.edges(), 3);
        x.dropNode(1);
        Check.fails("3 dropped node", BOUNDS, () -> x.edge(0, 0, 1, 1));
    }

    private static void edgesAreBounded() {
        GristGraph x = new GristGraph();
        x.node(0, 0);
        for (int i = 0; i < 40; i++) {
            Check.same("3 edge", x.edge(i % 3, 0, 0, 1 + i), i);
        }
        Check.fails("3 forty-first", STATE, () -> x.edge(0, 0, 0, 1));
        Check.fails("3 no node first", BOUNDS, () -> x.edge(0, 1, 0, 1));
        Check.fails("3 out of range first", ILLEGAL, () -> x.edge(0, 0, 0, 0));
        x.rule('a', 3);
        Check.fails("3 rules ahead of bounds", REFUSED, () -> x.edge(3, 0, 0, 1));
        x.begin();
        x.use(0);
        Check.fails("3 no rule in a transaction", STATE, () -> x.edge(3, 0, 0, 1));
        Check.same("3 edges", x.edges(), 40);
    }

    private static void edgesAreRefused() {
        GristGraph x = new GristGraph();
        x.node(0, 0);
        x.node(1, 0);
        x.node(1, 0);
        x.rule('a', 2);
        x.degrees(false, 1, 1, 0, 1);
        x.edge(2, 0, 1, 1);
        x.edge(2, 1, 2, 1);
        Check.fails("3 a ring", REFUSED, () -> x.edge(2, 2, 0, 1));
        Check.fails("3 a ring of one", REFUSED, () -> x.edge(2, 0, 0, 1));
        Check.same("3 a ring of another kind", x.edge(1, 2, 0, 1), 2);
        Check.same("3 in one", x.edge(1, 0, 1, 1), 3);
        Check.fails("3 in two", REFUSED, () -> x.edge(1, 2, 1, 1));
        Check.same("3 no number is lost", x.edge(0, 2, 1, 1), 4);
        x.begin();
        x.use(0);
        Check.same("3 rules aside", x.edge(2, 2, 0, 1), 5);
    }

    private static void nodesAreDropped() {
        GristGraph x = new GristGraph();
        for (int i = 0; i < 3; i++) {
            x.node(0, i);
        }
        x.edge(0, 0, 1, 1);
        x.edge(0, 1, 1, 1);
        x.edge(0, 2, 0, 1);
        x.edge(1, 2, 1, 1);
        Check.fails("4 none", BOUNDS, () -> x.dropNode(3));
        Check.fails("4 below", BOUNDS, () -> x.dropNode(-1));
        x.degrees(true, 0, 0, 0, 1);
        Check.same("4 edges go", x.dropNode(1), 3);
        Check.same("4 nodes", x.nodes(), 2);
        Check.same("4 edges", x.edges(), 1);
        Check.fails("4 its edge", BOUNDS, () -> x.ofEdge(1, 'k'));
        Check.fails("4 twice", BOUNDS, () -> x.dropNode(1));
        Check.same("4 the other one, with its edge", x.dropNode(0), 1);
        Check.same("4 without edges", x.dropNode(2), 0);
        GristGraph y = new GristGraph();
        y.node(0, 0);
        y.node(1, 0);
        y.edge(0, 0, 1, 1);
        y.degrees(true, 0, 0, 1, 1);
        Check.fails("4 by a rule", REFUSED, () -> y.dropNode(1));
        Check.same("4 nothing has changed", y.edges(), 1);
        Check.same("4 that of the rule", y.dropNode(0), 1);
    }

    private static void edgesAreDropped() {
        GristGraph x = new GristGraph();
        x.node(0, 0);
        x.node(1, 0);
        x.edge(0, 0, 1, 42);
        x.edge(0, 0, 1, 7);
        Check.fails("5 none", BOUNDS, () -> x.dropEdge(2));
        Check.fails("5 below", BOUNDS, () -> x.dropEdge(-1));
        x.degrees(false, 1, 0, 1, 2);
        Check.same("5 weight", x.dropEdge(0), 42);
        Check.fails("5 twice", BOUNDS, () -> x.dropEdge(0));
        Check.fails("5 by a rule", REFUSED, () -> x.dropEdge(1));
        x.begin();
        x.use(0);
        Check.same("5 rules aside", x.dropEdge(1), 7);
        Check.same("5 in the transaction", x.edges(), 0);
        Check.same("5 in the shared graph", shared(x).edges(), 1);
    }

    private static void valuesAreSet() {
        GristGraph x = new GristGraph();
        x.node(0, 3);
        x.node(0, 4);
        Check.fails("6 none", BOUNDS, () -> x.set(2, 1000));
        Check.fails("6 value 1000", ILLEGAL, () -> x.set(0, 1000));
        Check.fails("6 value -1000", ILLEGAL, () -> x.set(0, -1000));
        x.rule('u', 0);
        Check.fails("6 by a rule", REFUSED, () -> x.set(0, 4));
        Check.fails("6 range ahead of rules", ILLEGAL, () -> x.set(0, 2000));
        Check.same("6 before", x.set(0, 999), 3);
        Check.same("6 now", x.set(0, -999), 999);
        Check.same("6 like", x.set(0, -999), -999);
        x.begin();
        x.use(0);
        Check.same("6 rules aside", x.set(0, 4), -999);
        Check.same("6 before, in the transaction", x.set(0, 5), 4);
        Check.same("6 back", x.set(0, 4), 5);
        Check.same("6 in the transaction", x.ofNode(0, 'v'), 4);
        Check.same("6 in the shared graph", shared(x).ofNode(0, 'v'), -999);
    }

    private static void numbersOfAll() {
        GristGraph x = new GristGraph();
        x.node(0, 0);
        x.node(1, 0);
        x.edge(0, 0, 1, 1);
        Check.same("7 nodes", x.nodes(), 2);
        Check.same("8 edges", x.edges(), 1);
        x.begin();
        x.use(0);
        x.dropNode(0);
        Check.same("7 in a transaction", x.nodes(), 1);
        Check.same("8 in a transaction", x.edges(), 0);
        x.use(-1);
        x.view(2, 15);
        x.through(0);
        Check.same("7 through a view", x.nodes(), 1);
        Check.same("8 through a view", x.edges(), 0);
    }

    private static void thingsOfNodes() {
        GristGraph x = new GristGraph();
        x.node(2, -7);
        x.node(1, 0);
        x.edge(0, 0, 1, 1);
        x.edge(1, 0, 1, 1);
        x.edge(2, 0, 0, 1);
        x.edge(3, 1, 0, 1);
        Check.same("9 k", x.ofNode(0, 'k'), 2);
        Check.same("9 v", x.ofNode(0, 'v'), -7);
        Check.same("9 o", x.ofNode(0, 'o'), 3);
        Check.same("9 i", x.ofNode(0, 'i'), 2);
        Check.fails("9 no thing", ILLEGAL, () -> x.ofNode(0, 'w'));
        Check.fails("9 no node", BOUNDS, () -> x.ofNode(2, 'w'));
        x.view(15, 12);
        x.view(2, 15);
        x.through(0);
        Check.same("9 o through a view", x.ofNode(0, 'o'), 1);
        Check.same("9 i through a view", x.ofNode(0, 'i'), 2);
        x.through(1);
        Check.fails("9 not in the view", BOUNDS, () -> x.ofNode(0, 'k'));
        Check.same("9 i, edges with both", x.ofNode(1, 'i'), 0);
    }

    private static void thingsOfEdges() {
        GristGraph x = new GristGraph();
        x.node(0, 0);
        x.node(1, 0);
        x.edge(3, 1, 0, 77);
        Check.same("10 k", x.ofEdge(0, 'k'), 3);
        Check.same("10 f", x.ofEdge(0, 'f'), 1);
        Check.same("10 t", x.ofEdge(0, 't'), 0);
        Check.same("10 w", x.ofEdge(0, 'w'), 77);
        Check.fails("10 no thing", ILLEGAL, () -> x.ofEdge(0, 'v'));
        Check.fails("10 no edge", BOUNDS, () -> x.ofEdge(1, 'v'));
        Check.fails("10 below", BOUNDS, () -> x.ofEdge(-1, 'k'));
        x.view(1, 15);
        x.view(15, 7);
        x.through(0);
        Check.fails("10 without its nodes", BOUNDS, () -> x.ofEdge(0, 'k'));
        x.through(1);
        Check.fails("10 not of the kinds", BOUNDS, () -> x.ofEdge(0, 'k'));
    }

    private static void viewsAreMade() {
        GristGraph x = new GristGraph();
        Check.same("11 first", x.view(0, 15), 0);
        Check.fails("11 kind 4 of nodes", ILLEGAL, () -> x.view(16, 0));
        Check.fails("11 kind 4 of edges", ILLEGAL, () -> x.view(0, 16));
        Check.fails("11 below", ILLEGAL, () -> x.view(-1, 0));
        Check.same("11 second", x.view(15, 0), 1);
        x.view(1, 1);
        Check.same("11 fourth", x.view(1, 1), 3);
        Check.fails("11 fifth", STATE, () -> x.view(1, 1));
        Check.fails("11 other kinds first", ILLEGAL, () -> x.view(1, -16));
    }

    private static void viewsAreUsed() {
        GristGraph x = new GristGraph();
        Check.fails("12 no view", BOUNDS, () -> x.through(0));
        x.view(15, 15);
        x.view(1, 15);
        Check.same("12 none before", x.through(1), -1);
        Check.same("12 the second before", x.through(0), 1);
        Check.fails("12 no such view", BOUNDS, () -> x.through(2));
        Check.fails("12 below none", BOUNDS, () -> x.through(-2));
        Check.same("12 unchanged by that", x.through(-1), 0);
        Check.same("12 none", x.through(-1), -1);
        x.node(0, 0);
        x.view(15, 15);
        x.view(14, 15);
        x.through(3);
        Check.same("12 the fourth", x.nodes(), 0);
    }

    private static void doingsGoPastViews() {
        GristGraph x = new GristGraph();
        x.node(0, 1);
        x.node(1, 2);
        x.view(0, 0);
        x.through(0);
        Check.same("12 nothing is seen", x.nodes(), 0);
        Check.same("3 past the view", x.edge(0, 0, 1, 9), 0);
        Check.same("6 past the view", x.set(0, 8), 1);
        Check.same("5 past the view", x.dropEdge(0), 9);
        x.edge(0, 1, 1, 9);
        Check.same("4 past the view", x.dropNode(1), 1);
        Check.same("40 past the view", x.checksum(), (7L * 31L + 0L) * 31L + 8L);
    }
}
