/** Promises 30 to 35: transactions and watches. */
public final class TransactionTest {
    private static final Class<IllegalArgumentException> ILLEGAL = IllegalArgumentException.class;
    private static final Class<IllegalStateException> STATE = IllegalStateException.class;
    private static final Class<IndexOutOfBoundsException> BOUNDS = IndexOutOfBoundsException.class;
    private static final Class<UnsupportedOperationException> REFUSED =
            UnsupportedOperationException.class;

    private TransactionTest() { }

    public static void main(String[] args) {
        begun();
        used();
        committed();
        doneInOrder();
        givenUp();
        keptApart();
        crossedByNodes();
        crossedByEdges();
        crossedByEnds();
        notCrossed();
        crossedByTransactions();
        newAnswers();
        answersOfItsBeginning();
        sameAnswers();
        asManyAnswers();
        answersByTheirWay();
        notRemembered();
        answersOfWhatIsNotThere();
        refusedAnswers();
        brokenRules();
        orderOfLooks();
        committedFromElsewhere();
        watchesAreKept();
        watchesTell();
        watchesOfValues();
        watchesOfManySteps();
        watchesOfCommits();
        watchesByTheirWay();
        watchesBesideQuestions();
        watchesWithoutNode();
        watchesBeyond3000();
        Check.end();
    }

    /** Nodes 0 to 3 of kind 0, edges 0: 0 to 1, 1: 1 to 2, 2: 2 to 3, of kind 0. */
    private static GristGraph line() {
        GristGraph x = new GristGraph();
        for (int i = 0; i < 4; i++) {
            x.node(0, i);
        }
        for (int i = 0; i < 3; i++) {
            x.edge(0, i, i + 1, 1);
        }
        return x;
    }

    private static GristGraph lineBegun() {
        GristGraph x = line();
        x.begin();
        x.use(0);
        return x;
    }

    private static void begun() {
        GristGraph x = line();
        for (int i = 0; i < 3; i++) {
            Check.same("30 number", x.begin(), i);
        }
        Check.same("30 not used by that", x.use(-1), -1);
        Check.fails("30 three are open", STATE, () -> x.begin());
        for (int i = 3; i < 20; i++) {
            x.abort(i - 2);
            Check.same("30 number", x.begin(), i);
        }
        x.abort(0);
        x.commit(18);
        Check.fails("30 twenty were begun", STATE, () -> x.begin());
    }

    private static void used() {
        GristGraph x = line();
        Check.fails("31 not begun", BOUNDS, () -> x.use(0));
        x.begin();
        x.begin();
        Check.same("31 none before", x.use(1), -1);
        Check.same("31 the second before", x.use(0), 1);
        Check.fails("31 below", BOUNDS, () -> x.use(-2));
        Check.fails("31 not begun", BOUNDS, () -> x.use(2));
        x.abort(1);
        Check.fails("31 over", BOUNDS, () -> x.use(1));
        Check.same("31 still used", x.use(-1), 0);
        x.use(0);
        x.commit(0);
        Check.same("31 none behind the commit", x.use(-1), -1);
        Check.fails("31 committed", BOUNDS, () -> x.use(0));
    }

    private static void committed() {
        GristGraph x = lineBegun();
        Check.fails("32 not begun", BOUNDS, () -> x.commit(1));
        Check.fails("32 below", BOUNDS, () -> x.commit(-1));
        x.node(1, 50);
        x.edge(2, 4, 0, 7);
        x.dropNode(3);
        x.set(0, -5);
        x.begin();
        Check.same("32 c", x.commit(0), 'c');
        Check.fails("32 over", BOUNDS, () -> x.commit(0));
        Check.same("32 nodes", x.nodes(), 4);
        Check.same("32 edges", x.edges(), 3);
        Check.same("32 value", x.ofNode(0, 'v'), -5);
        Check.same("32 made", x.ofEdge(3, 'f'), 4);
        Check.fails("32 dropped", BOUNDS, () -> x.ofEdge(2, 'k'));
        x.use(1);
        Check.same("30 as it was when it was begun", x.ofNode(0, 'v'), 0);
        Check.same("32 without doings", x.commit(1), 'c');
        GristGraph y = line();
        y.begin();
        y.begin();
        y.use(0);
        y.set(0, 60);
        y.use(1);
        y.set(1, 61);
        y.dropEdge(2);
        Check.same("32 the one ahead", y.commit(0), 'c');
        Check.same("32 another one is still used", y.use(-1), 1);
        Check.same("32 its doings are done", y.ofNode(0, 'v'), 60);
        Check.same("32 those of the other one are not", y.ofNode(1, 'v'), 1);
        Check.same("32 nor any of them", y.edges(), 3);
    }

    /** "its doings are done in the shared graph, in order" */
    private static void doneInOrder() {
        GristGraph x = lineBegun();
        x.set(0, 5);
        x.set(0, 6);
        int node = x.node(2, 7);
        int edge = x.edge(3, node, 0, 8);
        x.set(node, 9);
        x.dropEdge(edge);
        int other = x.edge(3, 0, node, 10);
        x.dropNode(1);
        int gone = x.node(2, 11);
        int with = x.edge(3, gone, node, 12);
        x.dropNode(gone);
        x.use(-1);
        x.set(2, 60);
        int beside = x.edge(1, 3, 0, 13);
        Check.same("32 c", x.commit(0), 'c');
        Check.same("32 the last value", x.ofNode(0, 'v'), 6);
        Check.same("32 the last value of one that it made", x.ofNode(node, 'v'), 9);
        Check.same("32 of its kind", x.ofNode(node, 'k'), 2);
        Check.same("32 nodes", x.nodes(), 4);
        Check.same("32 edges", x.edges(), 3);
        Check.fails("32 made and dropped", BOUNDS, () -> x.ofEdge(edge, 'k'));
        Check.fails("32 a node made and dropped", BOUNDS, () -> x.ofNode(gone, 'k'));
        Check.fails("32 made and gone with it", BOUNDS, () -> x.ofEdge(with, 'k'));
        Check.fails("32 dropped", BOUNDS, () -> x.ofNode(1, 'k'));
        Check.fails("32 dropped with it", BOUNDS, () -> x.ofEdge(1, 'k'));
        Check.same("32 made again", x.ofEdge(other, 'w'), 10);
        Check.same("32 what is done beside it stays", x.ofEdge(beside, 'w'), 13);
        Check.same("32 what is set beside it stays", x.ofNode(2, 'v'), 60);
        Check.same("32 what it left alone", x.ofEdge(2, 'w'), 1);
    }

    private static void givenUp() {
        GristGraph x = lineBegun();
        Check.fails("33 not begun", BOUNDS, () -> x.abort(1));
        Check.fails("33 below", BOUNDS, () -> x.abort(-1));
        x.node(0, 1);
        x.edge(0, 0, 4, 1);
        x.set(0, 0);
        x.dropEdge(0);
        x.dropNode(1);
        x.nodes();
        x.matches('e', 0, -1);
        Check.fails("33 a refused one is no doing", BOUNDS, () -> x.dropNode(1));
        Check.same("33 doings", x.abort(0), 5);
        Check.same("33 none is used", x.use(-1), -1);
        Check.same("33 nothing is done", x.edges(), 3);
        Check.fails("33 over", BOUNDS, () -> x.abort(0));
        x.begin();
        x.begin();
        x.use(2);
        Check.same("33 without doings", x.abort(1), 0);
        Check.same("33 another one is still used", x.use(-1), 2);
    }

    private static void keptApart() {
        GristGraph x = lineBegun();
        x.set(0, 77);
        x.dropEdge(2);
        int made = x.node(3, 3);
        Check.same("31 seen inside", x.ofNode(0, 'v'), 77);
        Check.same("31 matches inside", x.matches('e', made, -1), 1);
        x.use(-1);
        Check.same("31 not outside", x.ofNode(0, 'v'), 0);
        Check.same("31 cost outside", x.cost(0, 3), 3);
        Check.fails("31 no node outside", BOUNDS, () -> x.ofNode(made, 'k'));
        x.set(1, 55);
        x.use(0);
        Check.same("31 what is done outside is not inside", x.ofNode(1, 'v'), 1);
        Check.same("40 of the shared graph", x.checksum(), sumOfLine(55));
    }

    private static long sumOfLine(int secondValue) {
        long[] row = {0, 0, 1, secondValue, 2, 2, 3, 3, 0, 1, 2};
        long sum = 7;
        for (long number : row) {
            sum = 31 * sum + number;
        }
        return sum;
    }

    private interface Doing {
        void on(GristGraph x);
    }

    /**
     * Commits own doings behind those that are done in the meantime: at once in the shared graph,
     * in a transaction begun behind it, or in one begun and done ahead of it and committed behind.
     */
    private static char crossing(Doing own, Doing other) {
        GristGraph x = lineBegun();
        own.on(x);
        x.use(-1);
        other.on(x);
        char told = x.commit(0);
        GristGraph y = lineBegun();
        own.on(y);
        y.begin();
        y.use(1);
        other.on(y);
        Check.same("32 the other one is first", y.commit(1), 'c');
        Check.same("32 as by a direct change", y.commit(0), told);
        GristGraph z = lineBegun();
        other.on(z);
        z.begin();
        z.use(1);
        own.on(z);
        Check.same("32 the other one is first, begun first", z.commit(0), 'c');
        Check.same("32 as by a direct change too", z.commit(1), told);
        GristGraph w = lineBegun();
        own.on(w);
        w.begin();
        w.use(1);
        other.on(w);
        w.abort(1);
        Check.same("32 not by one given up", w.commit(0), 'c');
        return told;
    }

    private static void crossedByNodes() {
        Check.same("32 set, set", crossing(x -> x.set(1, 5), x -> x.set(1, 6)), 'w');
        Check.same("32 set, set like", crossing(x -> x.set(1, 5), x -> x.set(1, 1)), 'w');
        Check.same("32 set like, set", crossing(x -> x.set(1, 1), x -> x.set(1, 5)), 'w');
        Check.same("32 set, drop", crossing(x -> x.set(1, 5), x -> x.dropNode(1)), 'w');
        Check.same("32 drop, set", crossing(x -> x.dropNode(1), x -> x.set(1, 5)), 'w');
        Check.same("32 drop, drop", crossing(x -> x.dropNode(1), x -> x.dropNode(1)), 'w');
        Check.same("32 set like, set like", crossing(x -> x.set(1, 1), x -> x.set(1, 1)), 'w');
        Check.same("32 set like, drop", crossing(x -> x.set(3, 3), x -> x.dropNode(3)), 'w');
        Check.same("32 drop, set like", crossing(x -> x.dropNode(0), x -> x.set(0, 0)), 'w');
        Check.same("32 the first of two", crossing(x -> {
            x.set(1, 7);
            x.set(2, 7);
        }, x -> x.set(1, 8)), 'w');
        Check.same("32 the first of two others", crossing(x -> x.set(1, 8), x -> {
            x.set(1, 7);
            x.set(2, 7);
        }), 'w');
    }

    private static void crossedByEdges() {
        Check.same("32 edge", crossing(x -> x.dropEdge(1), x -> x.dropEdge(1)), 'w');
        Check.same("32 edge, node", crossing(x -> x.dropEdge(1), x -> x.dropNode(1)), 'w');
        Check.same("32 node, edge", crossing(x -> x.dropNode(1), x -> x.dropEdge(1)), 'w');
        Check.same("32 one edge of two nodes",
                crossing(x -> x.dropNode(1), x -> x.dropNode(2)), 'w');
        Check.same("32 a node at its other end",
                crossing(x -> x.dropEdge(1), x -> x.dropNode(2)), 'w');
        Check.same("32 its other end, the edge",
                crossing(x -> x.dropNode(2), x -> x.dropEdge(1)), 'w');
        Check.same("32 no edge of both",
                crossing(x -> x.dropNode(0), x -> x.dropEdge(1)), 'c');
        Check.same("32 nor the other way round",
                crossing(x -> x.dropEdge(1), x -> x.dropNode(0)), 'c');
        Check.same("32 an edge that was gone ahead", crossing(x -> {
            x.dropEdge(0);
            x.dropNode(0);
        }, x -> x.dropEdge(0)), 'w');
    }

    private static void crossedByEnds() {
        Check.same("32 edge from a dropped one",
                crossing(x -> x.edge(1, 3, 0, 1), x -> x.dropNode(3)), 'w');
        Check.same("32 edge to a dropped one",
                crossing(x -> x.edge(1, 0, 3, 1), x -> x.dropNode(3)), 'w');
        Check.same("32 dropped, edge from it",
                crossing(x -> x.dropNode(3), x -> x.edge(1, 3, 0, 1)), 'w');
        Check.same("32 dropped, edge to it",
                crossing(x -> x.dropNode(3), x -> x.edge(1, 0, 3, 1)), 'w');
        Check.same("32 the first of two edges", crossing(x -> {
            x.edge(1, 0, 3, 1);
            x.edge(1, 1, 2, 1);
        }, x -> x.dropNode(3)), 'w');
        Check.same("32 the first of two dropped ones", crossing(x -> {
            x.dropNode(3);
            x.dropNode(0);
        }, x -> x.edge(1, 2, 3, 1)), 'w');
        Check.same("32 dropped by the first of two", crossing(x -> x.edge(1, 0, 3, 1), x -> {
            x.dropNode(3);
            x.dropNode(2);
        }), 'w');
        Check.same("32 made by the first of two", crossing(x -> x.dropNode(3), x -> {
            x.edge(1, 0, 3, 1);
            x.edge(1, 0, 1, 1);
        }), 'w');
        Check.same("32 loop at a dropped one",
                crossing(x -> x.edge(1, 3, 3, 1), x -> x.dropNode(3)), 'w');
        Check.same("32 dropped, loop at it",
                crossing(x -> x.dropNode(3), x -> x.edge(1, 3, 3, 1)), 'w');
        Check.same("32 edge that is gone again at a dropped one", crossing(x -> {
            x.edge(1, 0, 3, 1);
            x.dropEdge(3);
        }, x -> x.dropNode(3)), 'w');
        Check.same("32 edge that went with its node at a dropped one", crossing(x -> {
            x.edge(1, 0, x.node(0, 9), 1);
            x.dropNode(4);
        }, x -> x.dropNode(0)), 'w');
        Check.same("32 dropped, edge that is gone again", crossing(x -> x.dropNode(3), x -> {
            x.edge(1, 0, 3, 1);
            x.dropEdge(3);
        }), 'w');
    }

    private static void notCrossed() {
        Check.same("32 other nodes", crossing(x -> x.set(1, 5), x -> x.set(2, 6)), 'c');
        Check.same("32 edges at one node",
                crossing(x -> x.edge(0, 1, 2, 1), x -> x.edge(0, 1, 2, 1)), 'c');
        Check.same("32 set, edge at it",
                crossing(x -> x.set(1, 5), x -> x.edge(0, 1, 2, 1)), 'c');
        Check.same("32 edge at it, set",
                crossing(x -> x.edge(0, 1, 2, 1), x -> x.set(1, 5)), 'c');
        Check.same("32 edges of one node",
                crossing(x -> x.dropEdge(0), x -> x.dropEdge(1)), 'c');
        Check.same("32 drop, set at the other end",
                crossing(x -> x.dropNode(0), x -> x.set(1, 5)), 'c');
        Check.same("32 set, drop at the other end",
                crossing(x -> x.set(1, 5), x -> x.dropNode(0)), 'c');
        Check.same("32 drop, edge at the other end",
                crossing(x -> x.dropNode(0), x -> x.edge(1, 1, 2, 1)), 'c');
        Check.same("32 edge, drop at the other end",
                crossing(x -> x.edge(1, 1, 2, 1), x -> x.dropNode(0)), 'c');
        Check.same("32 far nodes", crossing(x -> x.dropNode(0), x -> x.dropNode(3)), 'c');
        Check.same("32 made in both", crossing(x -> x.node(0, 1), x -> x.node(0, 1)), 'c');
        Check.same("32 edge, node made", crossing(x -> x.edge(1, 0, 1, 1), x -> x.node(0, 1)), 'c');
        Check.same("32 drop, node made", crossing(x -> x.dropNode(0), x -> x.node(0, 1)), 'c');
        Check.same("32 node made, edge", crossing(x -> x.node(0, 1), x -> x.edge(1, 0, 1, 1)), 'c');
        Check.same("32 node made, drop", crossing(x -> x.node(0, 1), x -> x.dropNode(0)), 'c');
        Check.same("32 edge, edge dropped",
                crossing(x -> x.edge(1, 0, 1, 1), x -> x.dropEdge(0)), 'c');
        Check.same("32 edge dropped, edge",
                crossing(x -> x.dropEdge(0), x -> x.edge(1, 0, 1, 1)), 'c');
        Check.same("32 nothing own", crossing(x -> x.nodes(), x -> x.dropNode(1)), 'c');
        GristGraph x = line();
        x.set(1, 5);
        x.begin();
        x.use(0);
        x.set(1, 6);
        Check.same("32 done ahead of its beginning", x.commit(0), 'c');
        Check.same("32 its value", x.ofNode(1, 'v'), 6);
    }

    private static void crossedByTransactions() {
        GristGraph x = lineBegun();
        x.set(0, 10);
        x.begin();
        x.use(1);
        x.set(0, 11);
        x.set(2, 12);
        x.begin();
        x.use(2);
        x.set(2, 13);
        Check.same("32 open ones do not count", x.commit(1), 'c');
        Check.same("32 crossed by that", x.commit(0), 'w');
        Check.same("32 its value is not done", x.use(-1), 2);
        Check.same("32 that of the first to commit", x.ofNode(0, 'v'), 11);
        x.begin();
        x.use(3);
        x.set(0, 14);
        Check.same("32 crossed too", x.commit(2), 'w');
        Check.same("32 refused ones do not count", x.commit(3), 'c');
        Check.same("32 done", x.ofNode(0, 'v'), 14);
        GristGraph y = lineBegun();
        y.set(0, 10);
        y.begin();
        y.use(1);
        y.set(0, 20);
        y.abort(1);
        Check.same("32 those given up do not count", y.commit(0), 'c');
    }

    private static void newAnswers() {
        GristGraph x = line();
        x.step(0, 'f', 1, 4, -1, 2);
        x.begin();
        x.use(0);
        Check.same("32 asked", x.matches('e', 0, -1), 2);
        x.use(-1);
        x.set(1, 2);
        Check.same("32 p", x.commit(0), 'p');
        x.begin();
        x.use(1);
        x.matches('e', 0, 3);
        x.wipe();
        x.use(-1);
        x.edge(0, 0, 3, 1);
        Check.same("32 p by its own pattern", x.commit(1), 'p');
        x.begin();
        x.use(2);
        x.set(3, 9);
        x.matches('e', 0, 3);
        x.matches('e', 3, 3);
        x.use(-1);
        x.dropNode(0);
        Check.same("32 without steps to another one", x.commit(2), 'c');
    }

    /** "with the answers in the graph as it was when it was begun", whenever it is asked */
    private static void answersOfItsBeginning() {
        for (int doings = 0; doings < 2; doings++) {
            GristGraph x = lineBegun();
            x.step(0, 'f', 1, 1, -1, -999);
            if (doings > 0) {
                x.set(3, 50);
            }
            x.use(-1);
            x.edge(0, 0, 2, 1);
            x.use(0);
            Check.same("15 asked behind a change", x.matches('e', 0, -1), 1);
            Check.same("32 another one than at its beginning", x.commit(0), 'p');
            GristGraph y = lineBegun();
            y.step(0, 'f', 1, 1, -1, -999);
            if (doings > 0) {
                y.edge(0, 0, 2, 1);
            }
            y.use(-1);
            y.edge(0, 0, 2, 1);
            int made = y.edge(0, 0, 2, 1);
            y.use(0);
            Check.same("15 asked in the midst", y.matches('e', 0, -1), 1 + doings);
            y.use(-1);
            y.dropEdge(made);
            y.dropEdge(made - 1);
            Check.same("32 as at its beginning", y.commit(0), 'c');
            // A node that is dropped behind its beginning was there at it, and one to which.
            GristGraph z = lineBegun();
            z.step(0, 'f', 1, 1, -1, -999);
            if (doings > 0) {
                z.set(0, 0);
            }
            z.use(-1);
            z.dropNode(3);
            z.use(0);
            Check.same("15 from one that is gone outside", z.matches('e', 2, 3), 1);
            Check.same("32 it was there", z.commit(0), 'p');
            GristGraph w = lineBegun();
            w.step(0, 'f', 1, 1, -1, -999);
            if (doings > 0) {
                w.set(0, 0);
            }
            w.use(-1);
            w.dropNode(2);
            w.use(0);
            Check.same("15 from one that is gone outside, to any", w.matches('e', 2, -1), 1);
            Check.same("32 from it there was one", w.commit(0), 'p');
        }
    }

    private static void sameAnswers() {
        GristGraph x = line();
        x.view(15, 15);
        x.step(0, 'f', 1, 4, -1, -999);
        for (int i = 0; i < 3; i++) {
            x.begin();
        }
        x.matches('e', 0, -1);
        x.use(0);
        x.shortest('e', 0, -1);
        x.allShortest('e', 0, -1);
        x.matchAt('e', 0, 0, 0);
        x.open('e', 0);
        x.through(0);
        x.matches('e', 0, -1);
        x.through(-1);
        x.use(1);
        x.matches('e', 3, -1);
        x.matches('e', 1, -1);
        x.use(2);
        x.dropEdge(1);
        x.matches('e', 0, -1);
        x.use(-1);
        x.edge(0, 0, 2, 1);
        x.dropEdge(3);
        x.edge(0, 3, 0, 1);
        Check.same("32 only matches(), without a view", x.commit(0), 'c');
        Check.same("32 new matches from elsewhere", x.commit(1), 'p');
        x.dropEdge(4);
        Check.same("32 the answer of its beginning, come back", x.commit(2), 'c');
    }

    /** It remembers how many, not which. */
    private static void asManyAnswers() {
        GristGraph x = lineBegun();
        x.step(0, 'f', 1, 1, -1, 1);
        x.matches('e', 0, -1);
        x.use(-1);
        x.dropEdge(0);
        x.edge(0, 0, 3, 1);
        Check.same("32 another one, but as many", x.commit(0), 'c');
        x.begin();
        x.use(1);
        x.matches('n', 0, 3);
        x.use(-1);
        x.set(3, 1);
        Check.same("32 its value is as asked still", x.commit(1), 'c');
        x.begin();
        x.use(2);
        x.matches('n', 0, 3);
        x.use(-1);
        x.set(3, 0);
        Check.same("32 its value is not any more", x.commit(2), 'p');
        GristGraph y = lineBegun();
        y.step(0, 'f', 1, 1, -1, -999);
        y.matches('e', 3, -1);
        y.matches('e', 0, 1);
        y.matches('e', 2, -1);
        y.use(-1);
        y.edge(0, 0, 1, 1);
        Check.same("32 one of three, in the midst", y.commit(0), 'p');
        GristGraph z = lineBegun();
        z.step(0, 'f', 1, 1, -1, -999);
        z.matches('e', 0, -1);
        z.dropEdge(0);
        z.matches('e', 0, -1);
        z.begin();
        Check.same("32 by its own doings no other one", z.commit(0), 'c');
        z.use(1);
        z.matches('e', 0, -1);
        Check.same("32 by a commit another one", z.commit(1), 'p');
    }

    /** A loop at node 0 is in rows by edges, not by nodes. */
    private static void answersByTheirWay() {
        for (int doings = 0; doings < 2; doings++) {
            GristGraph x = line();
            x.step(0, 'f', 0, 2, -1, -999);
            for (int i = 0; i < 2; i++) {
                x.begin();
                x.use(i);
                if (doings > 0) {
                    x.set(3, 3 + i);
                }
            }
            x.use(0);
            Check.same("15 by nodes", x.matches('n', 0, -1), 3);
            x.use(1);
            Check.same("15 by edges", x.matches('e', 0, -1), 3);
            x.use(-1);
            x.edge(0, 0, 0, 1);
            Check.same("32 as many by nodes", x.commit(0), 'c');
            Check.same("32 more by edges", x.commit(1), doings > 0 ? 'w' : 'p');
        }
        // As many by edges, but one less by nodes.
        GristGraph y = line();
        y.edge(0, 0, 0, 1);
        y.step(0, 'f', 1, 1, -1, -999);
        for (int i = 0; i < 2; i++) {
            y.begin();
            y.use(i);
            Check.same("15 by its way", y.matches(i == 0 ? 'e' : 'n', 0, -1), 2 - i);
        }
        y.use(-1);
        y.dropEdge(0);
        y.edge(0, 0, 0, 1);
        Check.same("32 as many by edges", y.commit(0), 'c');
        Check.same("32 one less by nodes", y.commit(1), 'p');
    }

    /** "A method that throws an exception changes nothing": it is no question asked. */
    private static void notRemembered() {
        GristGraph x = lineBegun();
        x.step(0, 'f', 1, 1, -1, -999);
        Check.fails("15 way", ILLEGAL, () -> x.matches('x', 0, -1));
        Check.fails("15 from", BOUNDS, () -> x.matches('e', 4, -1));
        Check.fails("15 to", BOUNDS, () -> x.matches('e', 0, 4));
        x.dropNode(3);
        Check.fails("15 gone in it", BOUNDS, () -> x.matches('e', 2, 3));
        Check.fails("15 from one gone in it", BOUNDS, () -> x.matches('e', 3, -1));
        x.use(-1);
        x.edge(0, 0, 1, 1);
        x.edge(0, 2, 1, 1);
        Check.same("32 by a way, and nodes that are not there", x.commit(0), 'c');
        GristGraph y = loops(13);
        y.begin();
        y.use(0);
        for (int i = 0; i < 3; i++) {
            y.edge(0, 0, 0, 1);
        }
        Check.fails("15 refused in it", REFUSED, () -> y.matches('e', 0, -1));
        Check.fails("15 refused in it, to another one", REFUSED, () -> y.matches('e', 0, 1));
        y.use(-1);
        y.dropEdge(0);
        Check.same("32 refused in it, not remembered", y.commit(0), 'c');
        // The same question is remembered if it is asked again when it is not refused.
        GristGraph z = loops(13);
        z.begin();
        z.use(0);
        for (int i = 13; i < 16; i++) {
            z.edge(0, 0, 0, 1);
        }
        Check.fails("15 refused in it yet", REFUSED, () -> z.matches('e', 0, -1));
        z.dropEdge(15);
        Check.same("15 not any more", z.matches('e', 0, -1), 1 + 15 + 210 + 2730);
        z.use(-1);
        z.dropEdge(0);
        Check.same("32 remembered", z.commit(0), 'p');
    }

    private static void answersOfWhatIsNotThere() {
        GristGraph x = lineBegun();
        x.step(0, 'f', 0, 4, -1, -999);
        x.node(0, 9);
        x.edge(0, 3, 4, 1);
        x.matches('e', 4, -1);
        x.matches('e', 0, 4);
        Check.fails("15 no node", BOUNDS, () -> x.matches('e', 5, -1));
        x.use(-1);
        x.set(0, 7);
        Check.same("32 a node that is made in it", x.commit(0), 'c');
        x.begin();
        x.use(1);
        x.matches('e', 0, -1);
        x.use(-1);
        x.dropNode(0);
        Check.same("32 a node that is gone", x.commit(1), 'p');
    }

    /** At node 0 loops: 13 of them have 1 + 13 + 13 * 12 + 13 * 12 * 11 = 1886 rows up to three. */
    private static GristGraph loops(int count) {
        GristGraph x = new GristGraph();
        x.node(0, 0);
        x.node(0, 0);
        for (int i = 0; i < count; i++) {
            x.edge(0, 0, 0, 1);
        }
        x.step(0, 'f', 0, 3, -1, -999);
        return x;
    }

    private static void refusedAnswers() {
        GristGraph x = loops(16);
        Check.fails("15 refused", REFUSED, () -> x.matches('e', 0, -1));
        x.begin();
        x.begin();
        x.use(0);
        Check.fails("15 not remembered", REFUSED, () -> x.matches('e', 0, -1));
        x.use(1);
        for (int i = 0; i < 3; i++) {
            x.dropEdge(i);
        }
        Check.same("15 in the transaction", x.matches('e', 0, -1), 1886);
        x.use(-1);
        x.dropEdge(4);
        Check.same("32 nothing was remembered", x.commit(0), 'c');
        x.edge(0, 0, 0, 1);
        x.begin();
        x.use(2);
        for (int i = 0; i < 3; i++) {
            x.dropEdge(i);
        }
        x.matches('e', 0, -1);
        x.use(-1);
        Check.same("32 refused in both", x.commit(1), 'c');
        // The shared graph has 13 loops by now.
        x.begin();
        Check.same("32 refused at its beginning only", x.commit(2), 'w');
        x.use(3);
        x.matches('e', 0, -1);
        x.use(-1);
        for (int i = 0; i < 3; i++) {
            x.edge(0, 0, 0, 1);
        }
        Check.fails("15 refused again", REFUSED, () -> x.matches('e', 0, -1));
        Check.same("32 refused by now", x.commit(3), 'p');
        GristGraph y = loops(16);
        y.begin();
        y.use(0);
        for (int i = 0; i < 3; i++) {
            y.dropEdge(i);
        }
        y.matches('e', 0, -1);
        y.use(-1);
        for (int i = 3; i < 6; i++) {
            y.dropEdge(i);
        }
        Check.same("32 refused at its beginning, as many by now", y.commit(0), 'p');
    }

    private static void brokenRules() {
        GristGraph x = lineBegun();
        x.node(0, 3);
        x.use(-1);
        x.rule('u', 0);
        Check.same("32 s", x.commit(0), 's');
        Check.same("32 nothing is done", x.nodes(), 4);
        Check.same("41 sound", x.isSound(), true);
        x.begin();
        x.use(1);
        x.set(0, 3);
        x.set(3, 0);
        Check.same("32 broken in between only", x.commit(1), 'c');
        x.degrees(false, 1, 0, 1, 1);
        x.begin();
        x.use(2);
        int made = x.node(1, 0);
        x.edge(0, 0, made, 1);
        Check.same("32 a node with what it needs", x.commit(2), 'c');
        x.begin();
        x.use(3);
        x.dropNode(0);
        Check.same("32 another node would lack it", x.commit(3), 's');
    }

    private static void orderOfLooks() {
        GristGraph x = line();
        x.rule('u', 0);
        x.step(0, 'f', 1, 1, -1, -999);
        for (int i = 0; i < 3; i++) {
            x.begin();
        }
        x.use(0);
        x.matches('e', 0, -1);
        x.set(0, 3);
        x.use(1);
        x.matches('e', 0, -1);
        x.set(1, 3);
        x.use(2);
        x.set(1, 3);
        x.use(-1);
        x.set(0, 9);
        x.edge(0, 0, 2, 1);
        Check.same("32 w ahead of p and s", x.commit(0), 'w');
        Check.same("32 p ahead of s", x.commit(1), 'p');
        Check.same("32 s", x.commit(2), 's');
    }

    /** Whichever transaction and view are used meanwhile, a commit is of the shared graph. */
    private static void committedFromElsewhere() {
        for (int place = 0; place < 4; place++) {
            GristGraph x = line();
            x.view(14, 14);
            x.rule('u', 1);
            x.closure(0);
            x.step(0, 'f', 1, 2, -1, -999);
            x.watch('e', 0);
            for (int i = 0; i < 3; i++) {
                x.begin();
            }
            x.use(0);
            x.matches('e', 1, -1);
            x.edge(0, 0, 2, 1);
            x.use(1);
            x.matches('e', 2, -1);
            x.set(3, 9);
            x.use(2);
            x.matches('e', 0, 2);
            for (int i = 0; i < 3; i++) {
                x.dropEdge(i);
            }
            x.node(1, 5);
            x.node(1, 5);
            x.use(place / 2 == 0 ? -1 : 2);
            x.through(place % 2 == 0 ? -1 : 0);
            Check.same("32 as many, where it is committed", x.commit(0), 'c');
            Check.same("32 one, where it is committed", x.commit(1), 'c');
            told("by commits from elsewhere", x, 0, 2, 0);
            Check.same("27 came", x.changes(0, true), 0);
            Check.same("27 went", x.changes(0, false), 0);
            Check.same("26 pairs", x.pairs(0), 6);
            Check.same("41 sound", x.isSound(), true);
            Check.same("31 is used still", x.use(-1), place / 2 == 0 ? -1 : 2);
            Check.same("12 is used still", x.through(-1), place % 2 == 0 ? -1 : 0);
            Check.same("8 edges", x.edges(), 4);
            x.use(place / 2 == 0 ? -1 : 2);
            x.through(place % 2 == 0 ? -1 : 0);
            Check.same("32 one more", x.commit(2), 'p');
        }
    }

    private static void watchesAreKept() {
        GristGraph x = line();
        Check.fails("34 no node", BOUNDS, () -> x.watch('x', 4));
        Check.fails("34 no way", ILLEGAL, () -> x.watch('x', 0));
        for (int i = 0; i < 4; i++) {
            Check.same("34 watch", x.watch(i % 2 == 0 ? 'e' : 'n', 0), i);
        }
        Check.fails("34 fifth", STATE, () -> x.watch('e', 0));
        Check.fails("34 way first", ILLEGAL, () -> x.watch('x', 0));
        Check.fails("35 no watch", BOUNDS, () -> x.news(4, true));
        Check.fails("35 below", BOUNDS, () -> x.news(-1, false));
        x.begin();
        x.use(0);
        int made = x.node(0, 0);
        Check.fails("34 a node of the transaction", BOUNDS, () -> x.watch('e', made));
        GristGraph y = loops(16);
        for (int i = 0; i < 4; i++) {
            y.watch('e', 1);
        }
        Check.fails("34 refused ahead of the fifth", REFUSED, () -> y.watch('e', 0));
        Check.fails("34 fifth", STATE, () -> y.watch('e', 1));
    }

    private static void told(String what, GristGraph x, int watch, int found, int lost) {
        Check.same("35 found " + what, x.news(watch, true), found);
        Check.same("35 lost " + what, x.news(watch, false), lost);
    }

    private static void watchesTell() {
        GristGraph x = line();
        x.step(0, 'f', 1, 2, -1, -999);
        x.watch('e', 0);
        x.wipe();
        x.step(-1, 'b', 1, 1, -1, -999);
        x.watch('n', 3);
        told("at its beginning", x, 0, 0, 0);
        x.edge(0, 0, 2, 1);
        told("two by an edge", x, 0, 2, 0);
        told("not by the other one", x, 1, 0, 0);
        x.edge(1, 0, 3, 1);
        told("no other kind", x, 0, 2, 0);
        told("any kind", x, 1, 1, 0);
        x.dropEdge(1);
        told("one lost", x, 0, 2, 1);
        x.dropNode(2);
        told("two more lost", x, 0, 2, 3);
        told("lost with a node", x, 1, 1, 1);
        x.view(0, 0);
        x.through(0);
        x.edge(0, 0, 3, 1);
        told("without a view", x, 0, 3, 3);
        x.begin();
        x.use(0);
        x.dropNode(3);
        told("nothing by a transaction", x, 0, 3, 3);
        x.abort(0);
        told("nothing by giving it up", x, 0, 3, 3);
    }

    private static void watchesOfValues() {
        GristGraph x = line();
        x.step(0, 'f', 0, 1, -1, 1);
        x.watch('e', 0);
        x.set(0, 1);
        told("the empty row", x, 0, 1, 0);
        x.set(1, 0);
        told("a value", x, 0, 1, 1);
        x.set(1, 500);
        told("found again", x, 0, 2, 1);
        x.set(1, 600);
        told("nothing new", x, 0, 2, 1);
    }

    private static void watchesOfManySteps() {
        GristGraph x = line();
        x.step(0, 'f', 0, 3, -1, -999);
        x.step(1, 'b', 1, 1, -1, -999);
        x.watch('e', 0);
        x.edge(2, 0, 3, 1);
        told("of no kind of its steps", x, 0, 0, 0);
        x.edge(1, 0, 3, 1);
        told("by the last step", x, 0, 1, 0);
        x.edge(1, 1, 2, 1);
        told("by the last step, from the midst", x, 0, 2, 0);
        x.edge(1, 3, 0, 1);
        told("by the last step, from the first", x, 0, 3, 0);
        x.dropEdge(4);
        told("by the last step, lost", x, 0, 3, 1);
        // As many steps as there may be.
        GristGraph y = line();
        for (int i = 0; i < 4; i++) {
            y.step(i, 'f', 0, 4, -1, 10 * i - 40);
        }
        y.watch('n', 0);
        y.set(1, 1);
        told("nothing by a like value", y, 0, 0, 0);
        y.edge(3, 3, 0, 1);
        told("nothing by an edge to where it goes from", y, 0, 0, 0);
        y.edge(3, 1, 3, 1);
        told("one by the fourth step", y, 0, 1, 0);
        y.set(2, -11);
        told("one is not as the fourth asks", y, 0, 1, 1);
    }

    private static void watchesOfCommits() {
        GristGraph x = line();
        x.step(0, 'f', 1, 2, -1, -999);
        x.watch('e', 0);
        x.begin();
        x.use(0);
        x.edge(0, 0, 3, 1);
        x.dropEdge(3);
        x.dropEdge(1);
        x.edge(0, 1, 2, 1);
        x.commit(0);
        told("by a commit, as one change", x, 0, 1, 1);
        // Parted another way, a row is still the same match.
        GristGraph y = line();
        y.step(0, 'f', 1, 2, -1, 1);
        y.step(0, 'f', 0, 1, -1, -999);
        y.watch('e', 0);
        y.set(2, 0);
        told("a row parted another way is not lost", y, 0, 0, 1);
    }

    /** Nodes 0 and 1 go round by edges, and end at once by nodes. */
    private static void watchesByTheirWay() {
        GristGraph x = line();
        x.edge(0, 1, 0, 1);
        x.edge(0, 0, 0, 1);
        x.step(0, 'f', 0, 4, -1, -999);
        int byEdges = x.matches('e', 0, -1);
        Check.same("15 by edges are more", byEdges > x.matches('n', 0, -1), true);
        x.watch('n', 0);
        x.watch('e', 0);
        x.edge(0, 1, 1, 1);
        int more = x.matches('e', 0, -1) - byEdges;
        told("by nodes, no loop", x, 0, 0, 0);
        told("by edges, a loop", x, 1, more, 0);
        x.dropNode(0);
        told("all by nodes", x, 0, 0, 4);
        told("all by edges", x, 1, more, byEdges + more);
        // More than 3000 rows by edges, one by nodes.
        GristGraph y = loops(16);
        Check.fails("34 refused by edges", REFUSED, () -> y.watch('e', 0));
        Check.same("34 not by nodes", y.watch('n', 0), 0);
        y.edge(0, 0, 1, 1);
        told("one by nodes", y, 0, 1, 0);
        y.edge(0, 0, 0, 1);
        told("one by nodes still", y, 0, 1, 0);
    }

    /** What a watch looks at behind a change is nothing to the next question, nor otherwise. */
    private static void watchesBesideQuestions() {
        GristGraph x = line();
        x.step(0, 'f', 1, 1, -1, -999);
        x.step(0, 'f', 0, 1, -1, -999);
        x.step(0, 'f', 0, 1, -1, -999);
        x.watch('e', 0);
        x.wipe();
        x.step(0, 'f', 1, 1, -1, -999);
        x.watch('n', 1);
        x.edge(0, 1, 3, 1);
        told("by three steps", x, 0, 1, 0);
        told("by one step", x, 1, 1, 0);
        Check.same("15 by one step", x.matches('e', 1, -1), 2);
        x.wipe();
        Check.same("15 by none", x.matches('e', 1, -1), 1);
        x.step(0, 'f', 1, 1, -1, -999);
        x.step(0, 'b', 1, 1, -1, -999);
        x.dropEdge(2);
        told("three steps shorter", x, 0, 1, 1);
        told("one step still", x, 1, 1, 0);
        Check.same("15 by two steps, forth and back", x.matches('e', 1, -1), 0);
        x.edge(0, 2, 3, 1);
        Check.same("15 by two steps", x.matches('n', 1, 2), 1);
        told("three steps again", x, 0, 2, 1);
    }

    private static void watchesWithoutNode() {
        GristGraph x = line();
        x.step(0, 'f', 0, 3, -1, -999);
        x.watch('e', 0);
        x.dropNode(0);
        told("all lost with its node", x, 0, 0, 4);
        x.edge(0, 1, 3, 1);
        told("none any more", x, 0, 0, 4);
        GristGraph y = new GristGraph();
        y.node(0, 0);
        y.watch('n', 0);
        y.node(0, 0);
        told("nothing by another node", y, 0, 0, 0);
        y.dropNode(0);
        told("the empty row, without steps", y, 0, 0, 1);
    }

    private static void watchesBeyond3000() {
        GristGraph x = loops(13);
        x.watch('e', 0);
        for (int i = 0; i < 3; i++) {
            x.edge(0, 0, 0, 1);
        }
        // 14 loops have 1 + 14 + 182 + 2184 rows, 15 have 1 + 15 + 210 + 2730, 16 are too many.
        told("all lost beyond 3000", x, 0, 1 + 15 + 210 + 2730 - 1886, 1 + 15 + 210 + 2730);
        x.set(1, 5);
        told("none meanwhile", x, 0, 2956 - 1886, 2956);
        x.dropEdge(0);
        told("found again", x, 0, 2956 - 1886 + 2956, 2956);
        x.dropNode(0);
        told("lost at last", x, 0, 2956 - 1886 + 2956, 2956 + 2956);
    }
}
