import java.util.ArrayList;
import java.util.List;

/**
 * "A method that throws an exception changes nothing": each call of each exception is made of a
 * store, and behind it the store answers all that can be asked and done as one without that call.
 * Each is tried without a transaction and a view, in a transaction, through a view and in both.
 */
public final class RefusedTest {
    private static final int GONE_NODE = 5;
    private static final int GONE_EDGE = 7;
    private static final int MIN = Integer.MIN_VALUE;
    private static final int MAX = Integer.MAX_VALUE;

    private RefusedTest() { }

    private interface On {
        Object ask(GristGraph x);
    }

    private record Refused(String what, Class<? extends RuntimeException> due, On call) { }

    /** Where a call is made. */
    private record Place(boolean isFull, int transaction, int view) {
        GristGraph make() {
            GristGraph x = isFull ? full() : roomy();
            x.use(transaction);
            x.through(view);
            return x;
        }

        @Override
        public String toString() {
            return (isFull ? " full" : " roomy") + ", in " + transaction + ", through " + view;
        }
    }

    public static void main(String[] args) {
        for (int view = -1; view < 2; view++) {
            tryAll(new Place(false, -1, view));
            tryAll(new Place(false, 0, view));
            tryAll(new Place(true, -1, view));
            tryAll(new Place(true, 3, view));
        }
        theLogTellsUnlikeStores();
        Check.end();
    }

    private static void tryAll(Place place) {
        List<Refused> calls = new ArrayList<>();
        doings(calls);
        questions(calls);
        keepers(calls);
        if (place.view == 1) {
            throughNothing(calls);
        } else {
            throughMuch(calls);
        }
        if (place.transaction < 0) {
            rules(calls);
        }
        if (place.isFull) {
            full(calls, place);
        }
        String due = log(place.make());
        for (Refused refused : calls) {
            GristGraph x = place.make();
            Check.fails(refused.what + place, refused.due, () -> refused.call.ask(x));
            Check.same("behind " + refused.what + place, log(x), due);
        }
    }

    // ---- the stores

    /** With some of all things, one node and one edge gone, two transactions open and begun on. */
    private static GristGraph roomy() {
        GristGraph x = new GristGraph();
        int[] kinds = {0, 1, 1, 0, 3, 0, 2};
        int[] values = {3, 1, 2, 3, 4, 5, 6};
        for (int i = 0; i < kinds.length; i++) {
            x.node(kinds[i], values[i]);
        }
        int[][] edges = {{0, 0, 1, 5}, {0, 1, 2, 3}, {0, 2, 3, 2}, {2, 0, 2, 4}, {2, 2, 3, 9},
            {1, 6, 0, 7}, {0, 3, 4, 1}, {0, 0, 0, 8}, {1, 4, 6, 6}};
        for (int[] edge : edges) {
            x.edge(edge[0], edge[1], edge[2], edge[3]);
        }
        x.dropNode(GONE_NODE);
        x.dropEdge(GONE_EDGE);
        x.view(7, 15);
        x.view(0, 15);
        x.rule('u', 1);
        x.rule('a', 2);
        x.degrees(true, 2, 1, 1, 1);
        x.step(3, 'f', 0, 4, -1, -999);
        x.step(0, 'f', 0, 3, -1, -999);
        x.open('e', 0);
        x.open('n', 2);
        x.goOn(0, 1);
        x.goOn(0, 1);
        x.closure(0);
        x.closure(2);
        x.watch('e', 0);
        x.begin();
        x.use(0);
        x.set(3, 30);
        x.edge(1, 3, 0, 2);
        x.matches('e', 0, -1);
        x.begin();
        x.use(1);
        x.node(1, 1);
        x.matches('n', 2, 3);
        x.use(-1);
        x.set(0, 3);
        return x;
    }

    /** As many of all things as there may be; more than 3000 rows from node 0 on. */
    private static GristGraph full() {
        GristGraph x = roomy();
        x.abort(1);
        for (int i = 8; i < 14; i++) {
            x.node(0, 50 + i);
        }
        for (int i = 10; i < 40; i++) {
            x.edge(3, 0, 0, i);
        }
        x.view(15, 15);
        x.view(15, 7);
        x.step(-1, 'f', 0, 1, -1, 0);
        x.step(-1, 'b', 0, 1, 3, 0);
        x.open('e', 0);
        x.open('e', 3);
        x.goOn(2, 9);
        x.closure(1);
        x.closure(3);
        x.watch('n', 1);
        x.watch('n', 2);
        x.watch('e', 4);
        x.degrees(false, 3, 0, 1, 9);
        x.degrees(false, 3, 3, 0, 0);
        x.rule('a', 0);
        x.begin();
        x.use(2);
        x.dropNode(1);
        x.begin();
        x.use(-1);
        return x;
    }

    // ---- the calls

    private static void add(List<Refused> calls, Class<? extends RuntimeException> due,
            String what, On call) {
        calls.add(new Refused(what, due, call));
    }

    private static void doings(List<Refused> calls) {
        add(calls, Check.ILLEGAL, "node, kind", x -> x.node(4, 7));
        add(calls, Check.ILLEGAL, "node, kind below", x -> x.node(-1, 7));
        add(calls, Check.ILLEGAL, "node, value", x -> x.node(0, 1000));
        add(calls, Check.ILLEGAL, "node, value below", x -> x.node(0, MIN));
        add(calls, Check.BOUNDS, "edge, from", x -> x.edge(0, GONE_NODE, 0, 1));
        add(calls, Check.BOUNDS, "edge, to", x -> x.edge(0, 0, 14, 1));
        add(calls, Check.ILLEGAL, "edge, kind", x -> x.edge(4, 0, 1, 1));
        add(calls, Check.ILLEGAL, "edge, weight", x -> x.edge(0, 0, 1, 0));
        add(calls, Check.BOUNDS, "dropNode", x -> x.dropNode(GONE_NODE));
        add(calls, Check.BOUNDS, "dropNode below", x -> x.dropNode(-1));
        add(calls, Check.BOUNDS, "dropEdge", x -> x.dropEdge(GONE_EDGE));
        add(calls, Check.BOUNDS, "dropEdge below", x -> x.dropEdge(MIN));
        add(calls, Check.BOUNDS, "set, node", x -> x.set(GONE_NODE, 0));
        add(calls, Check.ILLEGAL, "set, value", x -> x.set(0, -1000));
        add(calls, Check.ILLEGAL, "view", x -> x.view(16, 1));
        add(calls, Check.ILLEGAL, "view, edges", x -> x.view(1, -1));
        add(calls, Check.BOUNDS, "through", x -> x.through(4));
        add(calls, Check.BOUNDS, "through below", x -> x.through(-2));
        add(calls, Check.ILLEGAL, "step, kind", x -> x.step(4, 'f', 0, 1, -1, 0));
        add(calls, Check.ILLEGAL, "step, direction", x -> x.step(0, 'F', 0, 1, -1, 0));
        add(calls, Check.ILLEGAL, "step, most", x -> x.step(0, 'f', 3, 2, -1, 0));
    }

    private static void questions(List<Refused> calls) {
        add(calls, Check.BOUNDS, "ofNode", x -> x.ofNode(GONE_NODE, 'k'));
        add(calls, Check.BOUNDS, "ofEdge", x -> x.ofEdge(GONE_EDGE, 'k'));
        add(calls, Check.BOUNDS, "matches, from", x -> x.matches('e', GONE_NODE, -1));
        add(calls, Check.BOUNDS, "matches, to", x -> x.matches('e', 0, -2));
        add(calls, Check.BOUNDS, "shortest", x -> x.shortest('n', 0, GONE_NODE));
        add(calls, Check.BOUNDS, "allShortest", x -> x.allShortest('n', MIN, -1));
        add(calls, Check.BOUNDS, "matchAt", x -> x.matchAt('n', GONE_NODE, 0, 0));
        add(calls, Check.BOUNDS, "open", x -> x.open('e', GONE_NODE));
        add(calls, Check.BOUNDS, "goOn, walk", x -> x.goOn(4, 1));
        add(calls, Check.ILLEGAL, "goOn, no steps", x -> x.goOn(0, 0));
        add(calls, Check.ILLEGAL, "goOn, 201 steps", x -> x.goOn(1, 201));
        add(calls, Check.ILLEGAL, "goOn, the least", x -> x.goOn(1, MIN));
        add(calls, Check.ILLEGAL, "goOn, the greatest", x -> x.goOn(1, MAX));
        add(calls, Check.BOUNDS, "found", x -> x.found(-1));
        add(calls, Check.BOUNDS, "foundAt, walk", x -> x.foundAt(4, 0));
        add(calls, Check.NO_SUCH, "foundAt, place", x -> x.foundAt(0, 9));
        add(calls, Check.NO_SUCH, "foundAt, none", x -> x.foundAt(1, 0));
        add(calls, Check.BOUNDS, "steps", x -> x.steps(4));
        add(calls, Check.BOUNDS, "cost", x -> x.cost(0, GONE_NODE));
        add(calls, Check.BOUNDS, "flow", x -> x.flow(GONE_NODE, 0));
    }

    private static void keepers(List<Refused> calls) {
        add(calls, Check.ILLEGAL, "closure", x -> x.closure(4));
        add(calls, Check.BOUNDS, "reaches, closure", x -> x.reaches(4, 0, 0));
        add(calls, Check.BOUNDS, "reaches, node", x -> x.reaches(0, 0, GONE_NODE));
        add(calls, Check.BOUNDS, "pairs", x -> x.pairs(4));
        add(calls, Check.BOUNDS, "changes", x -> x.changes(-1, true));
        add(calls, Check.ILLEGAL, "degrees", x -> x.degrees(true, 0, 0, 1, 0));
        add(calls, Check.REFUSED, "degrees, broken", x -> x.degrees(true, 0, 0, 8, 9));
        add(calls, Check.ILLEGAL, "rule, letter", x -> x.rule('o', 0));
        add(calls, Check.ILLEGAL, "rule, kind", x -> x.rule('u', 4));
        add(calls, Check.REFUSED, "rule, broken", x -> x.rule('u', 0));
        add(calls, Check.BOUNDS, "use", x -> x.use(4));
        add(calls, Check.BOUNDS, "commit", x -> x.commit(4));
        add(calls, Check.BOUNDS, "commit none", x -> x.commit(-1));
        add(calls, Check.BOUNDS, "abort", x -> x.abort(4));
        add(calls, Check.BOUNDS, "abort none", x -> x.abort(-1));
        add(calls, Check.BOUNDS, "watch, node", x -> x.watch('e', GONE_NODE));
        add(calls, Check.ILLEGAL, "watch, way", x -> x.watch('f', 0));
        add(calls, Check.BOUNDS, "news", x -> x.news(4, true));
    }

    /** Nodes of the kinds 0 to 2 are there. */
    private static void throughMuch(List<Refused> calls) {
        add(calls, Check.ILLEGAL, "ofNode, what", x -> x.ofNode(0, 'w'));
        add(calls, Check.ILLEGAL, "ofEdge, what", x -> x.ofEdge(0, 'v'));
        add(calls, Check.ILLEGAL, "matches, way", x -> x.matches('o', 0, -1));
        add(calls, Check.ILLEGAL, "shortest, way", x -> x.shortest('o', 0, -1));
        add(calls, Check.NO_SUCH, "shortest, none", x -> x.shortest('e', 3, 1));
        add(calls, Check.ILLEGAL, "allShortest, way", x -> x.allShortest('o', 0, -1));
        add(calls, Check.ILLEGAL, "matchAt, way", x -> x.matchAt('o', 0, 0, 0));
        add(calls, Check.NO_SUCH, "matchAt, match", x -> x.matchAt('e', 1, 99, 0));
        add(calls, Check.NO_SUCH, "matchAt, place", x -> x.matchAt('e', 1, 0, 16));
        add(calls, Check.ILLEGAL, "open, way", x -> x.open('o', 0));
        add(calls, Check.ILLEGAL, "flow, same", x -> x.flow(2, 2));
    }

    /** No node is there, and no edge. */
    private static void throughNothing(List<Refused> calls) {
        add(calls, Check.BOUNDS, "ofNode, not in the view", x -> x.ofNode(0, 'k'));
        add(calls, Check.BOUNDS, "ofEdge, not in the view", x -> x.ofEdge(0, 'k'));
        add(calls, Check.BOUNDS, "matches, not in the view", x -> x.matches('e', 0, -1));
        add(calls, Check.BOUNDS, "shortest, not in the view", x -> x.shortest('e', 0, -1));
        add(calls, Check.BOUNDS, "allShortest, not in the view", x -> x.allShortest('e', 0, 0));
        add(calls, Check.BOUNDS, "matchAt, not in the view", x -> x.matchAt('e', 0, 0, 0));
        add(calls, Check.BOUNDS, "open, not in the view", x -> x.open('e', 0));
        add(calls, Check.BOUNDS, "cost, not in the view", x -> x.cost(0, 0));
        add(calls, Check.BOUNDS, "flow, not in the view", x -> x.flow(0, 0));
        add(calls, Check.ARITHMETIC, "density, none in the view", x -> x.density());
        add(calls, Check.ARITHMETIC, "meanWeight, none in the view", x -> x.meanWeight());
    }

    private static void rules(List<Refused> calls) {
        add(calls, Check.REFUSED, "node, like value", x -> x.node(1, 2));
        add(calls, Check.REFUSED, "node without its edge", x -> x.node(2, 0));
        add(calls, Check.REFUSED, "edge, ring", x -> x.edge(2, 3, 0, 1));
        add(calls, Check.REFUSED, "edge, loop", x -> x.edge(2, 1, 1, 1));
        add(calls, Check.REFUSED, "edge, one too many", x -> x.edge(1, 6, 3, 1));
        add(calls, Check.REFUSED, "dropNode, its edge is needed", x -> x.dropNode(0));
        add(calls, Check.REFUSED, "dropEdge, needed", x -> x.dropEdge(5));
        add(calls, Check.REFUSED, "set, like value", x -> x.set(2, 1));
    }

    private static void full(List<Refused> calls, Place place) {
        add(calls, Check.STATE, "node", x -> x.node(0, 70));
        add(calls, Check.STATE, "edge", x -> x.edge(3, 0, 0, 1));
        add(calls, Check.STATE, "view", x -> x.view(1, 1));
        add(calls, Check.STATE, "step", x -> x.step(0, 'f', 0, 1, -1, 0));
        add(calls, Check.STATE, "closure", x -> x.closure(0));
        add(calls, Check.STATE, "degrees", x -> x.degrees(true, 0, 0, 0, 9));
        add(calls, Check.STATE, "rule", x -> x.rule('u', 1));
        add(calls, Check.STATE, "begin", x -> x.begin());
        add(calls, Check.REFUSED, "watch, too many rows", x -> x.watch('e', 0));
        add(calls, Check.STATE, "watch", x -> x.watch('e', 1));
        add(calls, Check.BOUNDS, "use, over", x -> x.use(1));
        add(calls, Check.BOUNDS, "commit, over", x -> x.commit(1));
        add(calls, Check.BOUNDS, "abort, over", x -> x.abort(1));
        if (place.view != 1) {
            add(calls, Check.STATE, "open", x -> x.open('e', 1));
            add(calls, Check.REFUSED, "matches, too many", x -> x.matches('e', 0, -1));
            add(calls, Check.REFUSED, "matches to one, too many", x -> x.matches('e', 0, 1));
            add(calls, Check.REFUSED, "shortest, too many", x -> x.shortest('e', 0, 0));
            add(calls, Check.REFUSED, "allShortest, too many", x -> x.allShortest('e', 0, 0));
            add(calls, Check.REFUSED, "matchAt, too many", x -> x.matchAt('e', 0, 0, 0));
        }
        if (place.view < 0) {
            add(calls, Check.NO_SUCH, "cost, no way", x -> x.cost(0, 9));
        }
    }

    // ---- all that a store answers

    private static void note(StringBuilder log, GristGraph x, On call) {
        try {
            log.append(call.ask(x));
        } catch (RuntimeException e) {
            log.append(e.getClass().getSimpleName());
        }
        log.append(' ');
    }

    /** What is used by now first, then all that can be asked, then what is done and committed. */
    private static String log(GristGraph x) {
        StringBuilder log = new StringBuilder();
        logFigures(log, x);
        note(log, x, y -> y.through(-1));
        note(log, x, y -> y.use(-1));
        logFigures(log, x);
        logGraph(log, x);
        logKept(log, x);
        for (int i = 0; i < 4; i++) {
            int number = i;
            note(log, x, y -> y.goOn(number, 3));
            note(log, x, y -> y.goOn(number, 200));
            note(log, x, y -> y.steps(number));
        }
        logDoings(log, x);
        for (int i = 0; i < 4; i++) {
            int number = i;
            note(log, x, y -> y.use(number));
            logFigures(log, x);
            note(log, x, y -> y.ofNode(3, 'v'));
            note(log, x, y -> number == 2 ? y.abort(number) : y.commit(number));
            note(log, x, y -> y.checksum());
        }
        logKept(log, x);
        return log.toString();
    }

    private static void logFigures(StringBuilder log, GristGraph x) {
        note(log, x, y -> y.nodes());
        note(log, x, y -> y.edges());
        note(log, x, y -> y.density());
        note(log, x, y -> y.meanWeight());
        note(log, x, y -> y.checksum());
        note(log, x, y -> y.isSound());
    }

    private static void logGraph(StringBuilder log, GristGraph x) {
        for (int i = 0; i < 14; i++) {
            int number = i;
            note(log, x, y -> y.ofNode(number, 'k'));
            note(log, x, y -> y.ofNode(number, 'v'));
        }
        for (int i = 0; i < 11; i++) {
            int number = i;
            note(log, x, y -> y.ofEdge(number, 'k'));
            note(log, x, y -> y.ofEdge(number, 'f'));
            note(log, x, y -> y.ofEdge(number, 't'));
            note(log, x, y -> y.ofEdge(number, 'w'));
        }
        for (int i = 0; i < 4; i++) {
            int number = i;
            note(log, x, y -> y.matches('e', number, -1));
            note(log, x, y -> y.cost(number, 3));
            note(log, x, y -> y.flow(number, 3));
        }
        note(log, x, y -> y.shortest('e', 1, 3));
        note(log, x, y -> y.allShortest('n', 1, 3));
        note(log, x, y -> y.matchAt('e', 1, 2, 0));
    }

    private static void logKept(StringBuilder log, GristGraph x) {
        for (int i = 0; i < 4; i++) {
            int number = i;
            note(log, x, y -> y.found(number));
            note(log, x, y -> y.foundAt(number, 0));
            note(log, x, y -> y.steps(number));
            note(log, x, y -> y.pairs(number));
            note(log, x, y -> y.changes(number, true));
            note(log, x, y -> y.changes(number, false));
            note(log, x, y -> y.reaches(number, 0, 3));
            note(log, x, y -> y.news(number, true));
            note(log, x, y -> y.news(number, false));
        }
    }

    /** The next numbers tell how many there are; rules tell themselves by what they refuse. */
    private static void logDoings(StringBuilder log, GristGraph x) {
        note(log, x, y -> y.node(1, 2));
        note(log, x, y -> y.edge(2, 3, 0, 1));
        note(log, x, y -> y.dropEdge(5));
        note(log, x, y -> y.view(0, 0));
        note(log, x, y -> y.closure(3));
        note(log, x, y -> y.open('n', 0));
        note(log, x, y -> y.step(0, 'b', 0, 1, -1, -999));
        note(log, x, y -> y.watch('n', 3));
        note(log, x, y -> y.wipe());
        note(log, x, y -> y.rule('a', 3));
        note(log, x, y -> y.begin());
        note(log, x, y -> y.node(3, 77));
        note(log, x, y -> y.edge(3, 4, 1, 1));
        note(log, x, y -> y.edge(0, 0, 2, 1));
        note(log, x, y -> y.checksum());
    }

    /** The log would be of no use if it were the same for stores that are not. */
    private static void theLogTellsUnlikeStores() {
        On[] changes = {x -> x.node(3, 0), x -> x.edge(0, 1, 3, 1), x -> x.dropEdge(0),
            x -> x.set(3, 3), x -> x.set(3, 4), x -> x.view(1, 1), x -> x.through(0),
            x -> x.step(0, 'f', 1, 1, -1, 0), x -> x.wipe(), x -> x.open('e', 1),
            x -> x.goOn(0, 1), x -> x.goOn(1, 1), x -> x.closure(1), x -> x.rule('a', 1),
            x -> x.begin(), x -> x.use(0), x -> x.commit(0), x -> x.abort(1),
            x -> x.watch('e', 2)};
        String due = log(roomy());
        for (int i = 0; i < changes.length; i++) {
            GristGraph x = roomy();
            changes[i].ask(x);
            Check.same("change " + i + " is not seen", log(x).equals(due), false);
        }
    }
}
