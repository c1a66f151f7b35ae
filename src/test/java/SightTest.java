/**
 * "All questions are of the graph of the transaction that is used, or of the shared one, and
 * through the view that is used": each question at four places, and what is of the shared graph
 * wherever it is asked.
 */
public final class SightTest {
    private static final int PLACES = 4;

    private SightTest() { }

    private interface Asked {
        Object of(GristGraph x);
    }

    public static void main(String[] args) {
        thingsThatAreThere();
        rowsThatAreThere();
        waysThatAreThere();
        sharesAndMeans();
        walksOfEachPlace();
        ofTheSharedGraph();
        keptOfTheSharedGraph();
        doneInTheGraphItself();
        Check.end();
    }

    /**
     * Shared: nodes 0 to 3, node 1 of kind 1, edges 0 to 4, edge 1 of kind 1. Transaction 0 has
     * made nodes 4 and 5 and edges 5, 6 of kind 1, and 7, dropped edge 4 and set node 0. The view
     * is of kind 0, so node 1 with edges 2 and 3 are not in it, and edges 1 and 6.
     */
    private static GristGraph store() {
        GristGraph x = new GristGraph();
        for (int i = 0; i < 4; i++) {
            x.node(i == 1 ? 1 : 0, i + 1);
        }
        x.edge(0, 0, 2, 10);
        x.edge(1, 0, 2, 20);
        x.edge(0, 0, 1, 2);
        x.edge(0, 1, 2, 3);
        x.edge(0, 2, 3, 7);
        x.view(1, 1);
        x.step(-1, 'f', 1, 2, -1, -999);
        x.begin();
        x.use(0);
        x.set(0, 9);
        x.dropEdge(4);
        x.edge(0, 0, 3, 30);
        x.node(0, 5);
        x.edge(1, 3, 4, 8);
        x.edge(0, 2, 0, 9);
        x.node(0, 5);
        x.use(-1);
        return x;
    }

    /** The shared graph, through the view; the transaction's, through the view. */
    private static void goTo(GristGraph x, int place) {
        x.use(place < 2 ? -1 : 0);
        x.through(place % 2 == 0 ? -1 : 0);
    }

    /** A class of exception as what is due means that it is thrown. */
    private static void at(String what, Asked asked, Object... due) {
        GristGraph x = store();
        for (int place = 0; place < PLACES; place++) {
            goTo(x, place);
            answers(what + ", at place " + place, asked, x, due[place]);
        }
        // Back again, as nothing of the last place may stay.
        for (int place = PLACES - 1; place >= 0; place--) {
            goTo(x, place);
            answers(what + ", back at place " + place, asked, x, due[place]);
        }
    }

    @SuppressWarnings("unchecked")
    private static void answers(String what, Asked asked, GristGraph x, Object due) {
        if (due instanceof Class<?>) {
            Check.fails(what, (Class<? extends RuntimeException>) due, () -> asked.of(x));
        } else {
            Check.same(what, asked.of(x), due);
        }
    }

    private static void thingsThatAreThere() {
        at("7", x -> x.nodes(), 4, 3, 6, 5);
        at("8", x -> x.edges(), 5, 2, 7, 3);
        at("9 o", x -> x.ofNode(0, 'o'), 3, 1, 4, 2);
        at("9 i", x -> x.ofNode(2, 'i'), 3, 1, 3, 1);
        at("9 i of a ring", x -> x.ofNode(0, 'i'), 0, 0, 1, 1);
        at("9 v", x -> x.ofNode(0, 'v'), 1, 1, 9, 9);
        at("9 not of the kind", x -> x.ofNode(1, 'k'), 1, Check.BOUNDS, 1, Check.BOUNDS);
        at("9 made", x -> x.ofNode(4, 'v'), Check.BOUNDS, Check.BOUNDS, 5, 5);
        at("10 dropped", x -> x.ofEdge(4, 'w'), 7, 7, Check.BOUNDS, Check.BOUNDS);
        at("10 not of the kind", x -> x.ofEdge(1, 'w'), 20, Check.BOUNDS, 20, Check.BOUNDS);
        at("10 without a node", x -> x.ofEdge(2, 't'), 1, Check.BOUNDS, 1, Check.BOUNDS);
        at("10 made", x -> x.ofEdge(7, 'f'), Check.BOUNDS, Check.BOUNDS, 2, 2);
        at("10 made of a kind", x -> x.ofEdge(6, 'k'), Check.BOUNDS, Check.BOUNDS, 1, Check.BOUNDS);
    }

    private static void rowsThatAreThere() {
        at("15 to any", x -> x.matches('e', 0, -1), 6, 2, 8, 3);
        at("15 by nodes", x -> x.matches('n', 0, -1), 6, 2, 6, 2);
        at("15 to 2", x -> x.matches('e', 0, 2), 3, 1, 3, 1);
        at("15 to 1", x -> x.matches('e', 0, 1), 1, Check.BOUNDS, 1, Check.BOUNDS);
        at("15 to 4", x -> x.matches('e', 0, 4), Check.BOUNDS, Check.BOUNDS, 1, 0);
        at("15 from 4", x -> x.matches('e', 4, -1), Check.BOUNDS, Check.BOUNDS, 0, 0);
        at("16 to 3", x -> x.shortest('e', 0, 3), 2, 2, 1, 1);
        at("16 to 1", x -> x.shortest('n', 0, 1), 1, Check.BOUNDS, 1, Check.BOUNDS);
        at("16 to 4", x -> x.shortest('e', 0, 4), Check.BOUNDS, Check.BOUNDS, 2, Check.NO_SUCH);
        at("16 back", x -> x.shortest('e', 0, 0), Check.NO_SUCH, Check.NO_SUCH, 2, 2);
        at("17 to any", x -> x.allShortest('e', 0, -1), 3, 1, 4, 2);
        at("17 to 2", x -> x.allShortest('n', 0, 2), 2, 1, 2, 1);
        at("17 to 4", x -> x.allShortest('e', 0, 4), Check.BOUNDS, Check.BOUNDS, 1, 0);
        at("18 second", x -> x.matchAt('e', 0, 1, 1), 4, 4, 7, 7);
        at("18 third", x -> x.matchAt('e', 0, 2, 0), 1, Check.NO_SUCH, 1, 5);
        at("18 seventh", x -> x.matchAt('e', 0, 6, 0), Check.NO_SUCH, Check.NO_SUCH, 5,
                Check.NO_SUCH);
    }

    private static void waysThatAreThere() {
        at("36 to 2", x -> x.cost(0, 2), 5, 10, 5, 10);
        at("36 to 3", x -> x.cost(0, 3), 12, 17, 30, 30);
        at("36 back", x -> x.cost(2, 0), Check.NO_SUCH, Check.NO_SUCH, 9, 9);
        at("36 to 4", x -> x.cost(0, 4), Check.BOUNDS, Check.BOUNDS, 38, Check.NO_SUCH);
        at("36 from 1", x -> x.cost(1, 2), 3, Check.BOUNDS, 3, Check.BOUNDS);
        at("37 to 2", x -> x.flow(0, 2), 32, 10, 32, 10);
        at("37 to 3", x -> x.flow(0, 3), 7, 7, 30, 30);
        at("37 to 4", x -> x.flow(0, 4), Check.BOUNDS, Check.BOUNDS, 8, 0);
        at("37 from 1", x -> x.flow(1, 2), 3, Check.BOUNDS, 3, Check.BOUNDS);
        at("37 back", x -> x.flow(2, 0), 0, 0, 9, 9);
    }

    private static void sharesAndMeans() {
        at("38", x -> x.density(), 4.0f / 16.0f, 2.0f / 9.0f, 6.0f / 36.0f, 3.0f / 25.0f);
        at("39", x -> x.meanWeight(), 42.0 / 5.0, 17.0 / 2.0, 82.0 / 7.0, 49.0 / 3.0);
    }

    private static void walksOfEachPlace() {
        GristGraph x = store();
        int[] due = {6, 2, 8, 3};
        for (int place = 0; place < PLACES; place++) {
            goTo(x, place);
            Check.same("19 at place " + place, x.open('e', 0), place);
        }
        for (int place = 0; place < PLACES; place++) {
            goTo(x, PLACES - 1 - place);
            for (int i = 0; i < due[place]; i++) {
                Check.same("20 finds, of place " + place, x.goOn(place, 200), 'f');
            }
            Check.same("20 no more, of place " + place, x.goOn(place, 200), 'e');
        }
        at("19 not of the kind", y -> y.open('n', 1) >= 0, true, Check.BOUNDS, true, Check.BOUNDS);
        at("19 made", y -> y.open('n', 5) >= 0, Check.BOUNDS, Check.BOUNDS, true, true);
    }

    private static void same(String what, Asked asked, Object due) {
        at(what, asked, due, due, due, due);
    }

    private static void ofTheSharedGraph() {
        long sum = 7;
        for (long number : new long[] {0, 1, 1, 2, 2, 3, 3, 4, 0, 1, 2, 3, 4}) {
            sum = 31 * sum + number;
        }
        same("40", x -> x.checksum(), sum);
        same("41", x -> x.isSound(), true);
        same("28 refused by a node not in the view", x -> x.degrees(true, 1, 0, 2, 9),
                Check.REFUSED);
        same("28 refused by an edge not in the view", x -> x.degrees(false, 0, 1, 0, 0),
                Check.REFUSED);
        same("34 no such node there", x -> x.watch('e', 4), Check.BOUNDS);
        GristGraph x = store();
        x.closure(0);
        x.watch('e', 0);
        for (int place = 0; place < PLACES; place++) {
            goTo(x, place);
            Check.same("26 at place " + place, x.pairs(0), 6);
            Check.same("25 at place " + place, x.reaches(0, 0, 1), true);
            Check.same("25 dropped, at place " + place, x.reaches(0, 2, 3), true);
            Check.same("25 made, at place " + place, x.reaches(0, 2, 0), false);
            Check.fails("25 no such node, at place " + place, Check.BOUNDS,
                    () -> x.reaches(0, 0, 4));
            Check.same("27 came, at place " + place, x.changes(0, true), 0);
            Check.same("27 went, at place " + place, x.changes(0, false), 0);
            Check.same("35 found, at place " + place, x.news(0, true), 0);
            Check.same("35 lost, at place " + place, x.news(0, false), 0);
        }
    }

    /** What is told or kept at any place is of the shared graph, without the view. */
    private static void keptOfTheSharedGraph() {
        for (int place = 0; place < PLACES; place++) {
            GristGraph x = store();
            goTo(x, place);
            Check.same("29 no ring, at place " + place, x.rule('a', 0), 0);
            Check.same("29 unlike values, at place " + place, x.rule('u', 0), 1);
            Check.same("28 at place " + place, x.degrees(true, 1, 0, 1, 1), 2);
            Check.same("24 at place " + place, x.closure(0), 0);
            Check.same("26 at place " + place, x.pairs(0), 6);
            Check.same("34 at place " + place, x.watch('e', 0), 0);
            Check.same("34 a node not in the view, at place " + place, x.watch('e', 1), 1);
            // The transaction breaks two of these rules, and just so it is seen.
            Check.same("7 seen at place " + place, x.nodes() > 2, true);
            Check.same("41 at place " + place, x.isSound(), true);
            x.use(-1);
            x.dropEdge(1);
            Check.same("35 lost by it, of place " + place, x.news(0, false), 2);
            Check.same("35 lost by the other one, of place " + place, x.news(1, false), 0);
            x.dropEdge(4);
            Check.same("35 lost too, of place " + place, x.news(0, false), 3);
            Check.same("35 lost by the other one too, of place " + place, x.news(1, false), 1);
            Check.same("27 went, of place " + place, x.changes(0, false), 3);
            Check.fails("28 kept, of place " + place, Check.REFUSED, () -> x.dropEdge(3));
            Check.fails("29 kept, of place " + place, Check.REFUSED, () -> x.edge(0, 2, 0, 1));
            Check.fails("29 kept too, of place " + place, Check.REFUSED, () -> x.set(0, 3));
        }
    }

    /** "what is done goes by the graph itself", in a transaction too. */
    private static void doneInTheGraphItself() {
        for (int place = 1; place < PLACES; place += 2) {
            GristGraph x = store();
            goTo(x, place);
            boolean isOwn = place == 3;
            Check.same("6 not in the view", x.set(1, 50), 2);
            Check.same("3 at a node not in the view", x.edge(3, 1, 1, 4), 8);
            Check.same("5 not in the view", x.dropEdge(1), 20);
            Check.same("2 of a kind not in the view", x.node(3, 3), 6);
            Check.same("7 it is not seen", x.nodes(), isOwn ? 5 : 3);
            Check.same("4 not in the view, with edges", x.dropNode(1), 3);
            x.through(-1);
            Check.same("7 seen without the view", x.nodes(), isOwn ? 6 : 4);
            Check.same("8 seen without the view", x.edges(), isOwn ? 4 : 2);
            x.use(isOwn ? -1 : 0);
            Check.same("7 of the other graph", x.nodes(), isOwn ? 4 : 6);
            Check.same("8 of the other graph", x.edges(), isOwn ? 5 : 7);
            Check.same("9 of the other graph", x.ofNode(1, 'v'), 2);
            Check.same("33 doings", x.abort(0), isOwn ? 12 : 7);
        }
    }
}
