/** Promises 24 to 29: closures and rules. */
public final class RuleTest {
    private static final Class<IllegalArgumentException> ILLEGAL = IllegalArgumentException.class;
    private static final Class<IllegalStateException> STATE = IllegalStateException.class;
    private static final Class<IndexOutOfBoundsException> BOUNDS = IndexOutOfBoundsException.class;
    private static final Class<UnsupportedOperationException> REFUSED =
            UnsupportedOperationException.class;

    private RuleTest() { }

    public static void main(String[] args) {
        closuresAreKept();
        pairsWithAWay();
        pairsComeAndGo();
        closuresAreOfTheSharedGraph();
        commitsAreOneChange();
        degreesAreTold();
        degreesAreKept();
        degreesAtTheirBounds();
        rulesAreTold();
        ringsAreRefused();
        ringsGoOneWay();
        valuesAreUnlike();
        rulesAreBounded();
        Check.end();
    }

    private static GristGraph ofNodes(int count) {
        GristGraph x = new GristGraph();
        for (int i = 0; i < count; i++) {
            x.node(0, i);
        }
        return x;
    }

    private static void closuresAreKept() {
        GristGraph x = ofNodes(1);
        Check.fails("24 kind 4", ILLEGAL, () -> x.closure(4));
        Check.fails("24 kind -1", ILLEGAL, () -> x.closure(-1));
        for (int i = 0; i < 4; i++) {
            Check.same("24 closure", x.closure(i / 2), i);
        }
        Check.fails("24 fifth", STATE, () -> x.closure(0));
        Check.fails("24 kind first", ILLEGAL, () -> x.closure(4));
        Check.fails("25 no closure", BOUNDS, () -> x.reaches(4, 0, 0));
        Check.fails("25 no node", BOUNDS, () -> x.reaches(0, 1, 0));
        Check.fails("25 no other one", BOUNDS, () -> x.reaches(0, 0, -1));
        Check.fails("26 no closure", BOUNDS, () -> x.pairs(-1));
        Check.fails("27 no closure", BOUNDS, () -> x.changes(4, true));
    }

    private static void pairsWithAWay() {
        GristGraph x = ofNodes(4);
        x.edge(1, 0, 1, 1);
        x.edge(1, 1, 2, 1);
        x.edge(2, 2, 3, 1);
        x.closure(1);
        Check.same("26 pairs", x.pairs(0), 3);
        Check.same("25 one edge", x.reaches(0, 0, 1), true);
        Check.same("25 two edges", x.reaches(0, 0, 2), true);
        Check.same("25 not back", x.reaches(0, 2, 0), false);
        Check.same("25 not to itself", x.reaches(0, 0, 0), false);
        Check.same("25 not by another kind", x.reaches(0, 2, 3), false);
        Check.same("27 none came", x.changes(0, true), 0);
        x.edge(1, 2, 0, 1);
        Check.same("26 a ring", x.pairs(0), 9);
        Check.same("25 to itself by a ring", x.reaches(0, 0, 0), true);
        Check.same("27 came", x.changes(0, true), 6);
        Check.same("27 went", x.changes(0, false), 0);
        x.edge(1, 3, 3, 1);
        Check.same("25 a loop", x.reaches(0, 3, 3), true);
    }

    private static void pairsComeAndGo() {
        GristGraph x = ofNodes(4);
        x.closure(0);
        x.edge(0, 0, 1, 1);
        x.edge(0, 1, 3, 1);
        x.edge(0, 0, 2, 1);
        x.edge(0, 2, 3, 1);
        Check.same("26 five", x.pairs(0), 5);
        Check.same("27 five came", x.changes(0, true), 5);
        x.dropEdge(1);
        Check.same("26 only those without another way", x.pairs(0), 4);
        Check.same("25 another way", x.reaches(0, 0, 3), true);
        Check.same("27 one went", x.changes(0, false), 1);
        x.dropNode(2);
        Check.same("26 with a node", x.pairs(0), 1);
        Check.same("27 three more went", x.changes(0, false), 4);
        Check.fails("25 a dropped node", BOUNDS, () -> x.reaches(0, 2, 3));
        x.edge(0, 1, 3, 1);
        Check.same("27 again", x.changes(0, true), 7);
        x.set(0, 9);
        Check.same("27 a value is nothing to it", x.changes(0, true), 7);
        Check.same("41 sound", x.isSound(), true);
    }

    private static void closuresAreOfTheSharedGraph() {
        GristGraph x = ofNodes(3);
        x.edge(0, 0, 1, 1);
        x.view(15, 0);
        x.through(0);
        x.begin();
        x.use(0);
        x.closure(0);
        x.edge(0, 1, 2, 1);
        x.dropNode(0);
        x.node(0, 5);
        Check.same("26 of the shared graph", x.pairs(0), 1);
        Check.same("25 of the shared graph", x.reaches(0, 0, 1), true);
        Check.fails("25 a node of the transaction", BOUNDS, () -> x.reaches(0, 3, 1));
        Check.same("27 nothing came", x.changes(0, true), 0);
    }

    private static void commitsAreOneChange() {
        GristGraph x = ofNodes(3);
        x.edge(0, 0, 1, 1);
        x.closure(0);
        x.begin();
        x.use(0);
        x.dropEdge(0);
        x.edge(0, 1, 2, 1);
        x.edge(0, 0, 1, 1);
        Check.same("32 done", x.commit(0), 'c');
        Check.same("27 came at the end of it", x.changes(0, true), 2);
        Check.same("27 none went at the end of it", x.changes(0, false), 0);
        Check.same("26 pairs", x.pairs(0), 3);
    }

    private static void degreesAreTold() {
        GristGraph x = ofNodes(2);
        x.edge(1, 0, 1, 1);
        Check.fails("28 node kind", ILLEGAL, () -> x.degrees(true, 4, 0, 0, 9));
        Check.fails("28 node kind below", ILLEGAL, () -> x.degrees(true, -1, 0, 0, 9));
        Check.fails("28 edge kind", ILLEGAL, () -> x.degrees(true, 0, 4, 0, 9));
        Check.fails("28 edge kind below", ILLEGAL, () -> x.degrees(true, 0, -1, 0, 9));
        Check.fails("28 least below", ILLEGAL, () -> x.degrees(true, 0, 0, -1, 9));
        Check.fails("28 most 10", ILLEGAL, () -> x.degrees(true, 0, 0, 0, 10));
        Check.fails("28 most less", ILLEGAL, () -> x.degrees(true, 0, 0, 3, 2));
        Check.fails("28 broken out", REFUSED, () -> x.degrees(true, 0, 1, 1, 9));
        Check.fails("28 broken in", REFUSED, () -> x.degrees(false, 0, 1, 1, 9));
        Check.fails("28 broken, too many", REFUSED, () -> x.degrees(true, 0, 1, 0, 0));
        Check.same("28 first", x.degrees(true, 0, 1, 0, 1), 0);
        Check.same("28 of a kind without nodes", x.degrees(false, 3, 1, 9, 9), 1);
    }

    private static void degreesAreKept() {
        GristGraph x = ofNodes(2);
        x.node(1, 0);
        x.degrees(true, 0, 2, 0, 1);
        x.degrees(false, 1, 2, 0, 2);
        x.edge(2, 0, 2, 1);
        Check.fails("28 out of one", REFUSED, () -> x.edge(2, 0, 1, 1));
        Check.same("28 another kind of edges", x.edge(1, 0, 1, 1), 1);
        Check.same("28 out of another kind", x.edge(2, 2, 0, 1), 2);
        x.edge(2, 1, 2, 1);
        Check.fails("28 into one", REFUSED, () -> x.edge(2, 2, 2, 1));
        x.dropEdge(0);
        Check.same("28 a loop counts out and in", x.edge(2, 2, 2, 1), 4);
        Check.fails("28 it came in", REFUSED, () -> x.edge(2, 2, 2, 1));
        Check.same("41 sound", x.isSound(), true);
    }

    /** One to two edges of kind 1 go out from the one node of kind 1, or come in. */
    private static void degreesAtTheirBounds() {
        for (boolean isOut : new boolean[] {true, false}) {
            GristGraph x = ofNodes(1);
            x.node(1, 0);
            int from = isOut ? 1 : 0;
            Check.fails("28 none is too few", REFUSED, () -> x.degrees(isOut, 1, 1, 1, 2));
            x.edge(1, from, 1 - from, 1);
            Check.fails("28 the other way none", REFUSED, () -> x.degrees(!isOut, 1, 1, 1, 2));
            Check.fails("28 one is too few", REFUSED, () -> x.degrees(isOut, 1, 1, 2, 9));
            Check.fails("28 one is too many", REFUSED, () -> x.degrees(isOut, 1, 1, 0, 0));
            Check.same("28 one of one to two", x.degrees(isOut, 1, 1, 1, 2), 0);
            Check.fails("28 not less", REFUSED, () -> x.dropEdge(0));
            Check.same("28 two of one to two", x.edge(1, from, 1 - from, 1), 1);
            Check.fails("28 not more", REFUSED, () -> x.edge(1, from, 1 - from, 1));
            Check.fails("28 not by a loop", REFUSED, () -> x.edge(1, 1, 1, 1));
            Check.same("28 more of another kind", x.edge(0, from, 1 - from, 1), 2);
            Check.same("28 more the other way", x.edge(1, 1 - from, from, 1), 3);
            Check.same("28 one is enough", x.dropEdge(0), 1);
            Check.fails("28 another node without", REFUSED, () -> x.node(1, 5));
            Check.fails("28 not less by a node", REFUSED, () -> x.dropNode(0));
            Check.same("28 it goes itself", x.dropNode(1), 3);
            Check.same("28 the other one goes", x.dropNode(0), 0);
        }
        GristGraph y = ofNodes(1);
        for (int i = 0; i < 9; i++) {
            y.edge(0, 0, 0, 1);
        }
        Check.same("28 nine", y.degrees(true, 0, 0, 9, 9), 0);
        Check.same("28 nine in", y.degrees(false, 0, 0, 9, 9), 1);
        Check.fails("28 not ten", REFUSED, () -> y.edge(0, 0, 0, 1));
        Check.fails("28 not eight", REFUSED, () -> y.dropEdge(8));
        GristGraph z = ofNodes(1);
        for (int i = 0; i < 10; i++) {
            z.edge(0, 0, 0, 1);
        }
        Check.fails("28 ten are never so", REFUSED, () -> z.degrees(true, 0, 0, 0, 9));
    }

    private static void rulesAreTold() {
        GristGraph x = ofNodes(2);
        x.node(1, 5);
        x.node(1, 5);
        Check.fails("29 no rule", ILLEGAL, () -> x.rule('o', 0));
        Check.fails("29 kind 4", ILLEGAL, () -> x.rule('u', 4));
        Check.fails("29 kind -1", ILLEGAL, () -> x.rule('a', -1));
        Check.fails("29 broken", REFUSED, () -> x.rule('u', 1));
        Check.same("29 first", x.rule('u', 0), 0);
        Check.fails("29 like values", REFUSED, () -> x.set(0, 1));
        Check.same("29 its own value", x.set(0, 0), 0);
        x.begin();
        x.use(0);
        x.set(2, 6);
        Check.fails("29 the shared graph breaks it", REFUSED, () -> x.rule('u', 1));
        x.commit(0);
        Check.same("29 second", x.rule('u', 1), 1);
        Check.same("29 other kind may be like", x.node(2, 5), 4);
    }

    private static void ringsAreRefused() {
        GristGraph x = ofNodes(3);
        x.edge(0, 0, 1, 1);
        x.edge(0, 0, 2, 1);
        x.edge(0, 1, 2, 1);
        x.edge(0, 0, 2, 1);
        Check.same("29 two ways are no ring", x.rule('a', 0), 0);
        Check.fails("29 a ring", REFUSED, () -> x.edge(0, 2, 0, 1));
        Check.fails("29 a ring of two", REFUSED, () -> x.edge(0, 1, 0, 1));
        Check.fails("29 a ring of one", REFUSED, () -> x.edge(0, 1, 1, 1));
        Check.same("29 of another kind", x.edge(1, 2, 0, 1), 4);
        Check.same("29 mixed kinds are no ring", x.rule('a', 1), 1);
        x.edge(2, 0, 0, 1);
        Check.fails("29 a loop is a ring", REFUSED, () -> x.rule('a', 2));
    }

    /** "edges of a kind make no ring", an edge going "from a node to a node, or the same" */
    private static void ringsGoOneWay() {
        GristGraph x = ofNodes(14);
        x.rule('a', 1);
        for (int i = 0; i < 13; i++) {
            x.edge(1, i, i + 1, 1);
        }
        Check.fails("29 round all nodes", REFUSED, () -> x.edge(1, 13, 0, 1));
        Check.same("29 the same way again", x.edge(1, 0, 13, 1), 13);
        Check.same("29 an edge beside another", x.edge(1, 4, 5, 1), 14);
        Check.fails("29 there and back", REFUSED, () -> x.edge(1, 5, 4, 1));
        for (int i = 0; i < 14; i++) {
            int node = i;
            Check.fails("29 to the same", REFUSED, () -> x.edge(1, node, node, 1));
        }
        Check.same("29 back by another kind", x.edge(2, 13, 0, 1), 15);
        Check.same("29 to the same by another kind", x.edge(2, 3, 3, 1), 16);
        x.dropEdge(6);
        Check.fails("29 back beside the gap", REFUSED, () -> x.edge(1, 13, 7, 1));
        Check.same("29 over the gap", x.edge(1, 7, 6, 1), 17);
        x.dropNode(9);
        Check.fails("29 back where a way is left", REFUSED, () -> x.edge(1, 13, 0, 1));
        x.dropEdge(13);
        Check.same("29 back where none is left", x.edge(1, 13, 0, 1), 18);
        Check.same("41 sound", x.isSound(), true);
    }

    /** "nodes of a kind have unlike values" */
    private static void valuesAreUnlike() {
        GristGraph x = new GristGraph();
        x.node(2, 999);
        x.node(2, -999);
        x.node(1, 999);
        x.node(1, 999);
        Check.fails("29 two are like", REFUSED, () -> x.rule('u', 1));
        Check.same("29 none are like", x.rule('u', 2), 0);
        Check.fails("2 like the first", REFUSED, () -> x.node(2, 999));
        Check.fails("2 like the second", REFUSED, () -> x.node(2, -999));
        Check.same("2 like one of another kind", x.node(3, 999), 4);
        Check.same("2 one off", x.node(2, 998), 5);
        Check.fails("6 like another one", REFUSED, () -> x.set(5, 999));
        Check.same("6 like itself", x.set(5, 998), 998);
        Check.same("6 one of another kind", x.set(2, -999), 999);
        x.dropNode(0);
        Check.same("6 like one that is gone", x.set(5, 999), 998);
        Check.same("29 by now none are like", x.rule('u', 1), 1);
    }

    private static void rulesAreBounded() {
        GristGraph x = ofNodes(1);
        for (int i = 0; i < 6; i++) {
            Check.same("29 rule", i % 2 == 0 ? x.rule('a', 0) : x.degrees(true, 0, 0, 0, 9), i);
        }
        Check.fails("29 seventh", STATE, () -> x.rule('u', 0));
        Check.fails("28 seventh", STATE, () -> x.degrees(true, 0, 0, 0, 0));
        Check.fails("28 broken first", REFUSED, () -> x.degrees(true, 0, 0, 1, 1));
        Check.fails("28 range first", ILLEGAL, () -> x.degrees(true, 0, 0, 1, 0));
        x.node(1, 0);
        x.node(1, 0);
        Check.fails("29 broken first", REFUSED, () -> x.rule('u', 1));
        Check.fails("29 no rule first", ILLEGAL, () -> x.rule('x', 1));
    }
}
