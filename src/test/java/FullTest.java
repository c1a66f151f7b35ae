/**
 * How many there may be of each thing: the last one is taken and the next one refused, and neither
 * what is dropped, over or refused makes room where the document counts what was ever made.
 */
public final class FullTest {
    private FullTest() { }

    public static void main(String[] args) {
        nodesEverMade();
        edgesEverMade();
        edgesBeyondThirtyOne();
        views();
        steps();
        walks();
        closures();
        rules();
        openTransactions();
        begunTransactions();
        watches();
        rowsOfQuestions();
        rowsOfOneKindOnly();
        rowsAreThoseThatBegin();
        rowsOfAnswers();
        rowsOfWatches();
        stepsOfOneCall();
        longestRow();
        callsOfOneObject();
        Check.end();
    }

    private static GristGraph ofNodes(int count) {
        GristGraph x = new GristGraph();
        for (int i = 0; i < count; i++) {
            x.node(0, i);
        }
        return x;
    }

    /** "over the shared graph and all transactions, at most 14 are ever made" */
    private static void nodesEverMade() {
        GristGraph x = ofNodes(3);
        x.rule('u', 0);
        Check.fails("2 refused by a rule", Check.REFUSED, () -> x.node(0, 0));
        Check.fails("2 refused by its range", Check.ILLEGAL, () -> x.node(0, 1000));
        x.begin();
        x.begin();
        x.use(0);
        for (int i = 3; i < 7; i++) {
            Check.same("2 in one that is given up", x.node(0, i), i);
        }
        x.use(1);
        for (int i = 7; i < 11; i++) {
            Check.same("2 in one that is committed", x.node(0, i), i);
        }
        x.abort(0);
        Check.same("32 committed", x.commit(1), 'c');
        Check.same("7 those of both graphs", x.nodes(), 7);
        x.dropNode(10);
        x.dropNode(0);
        for (int i = 11; i < 14; i++) {
            Check.same("2 up to the fourteenth", x.node(0, 100 + i), i);
        }
        Check.fails("2 fourteen were made", Check.STATE, () -> x.node(0, 500));
        for (int i = 7; i < 10; i++) {
            x.dropNode(i);
        }
        Check.fails("2 were made, though dropped", Check.STATE, () -> x.node(0, 500));
        x.begin();
        x.use(2);
        Check.fails("2 in a transaction too", Check.STATE, () -> x.node(0, 500));
        Check.same("33 what is refused is no doing", x.abort(2), 0);
    }

    /** "likewise, at most 40 are ever made" */
    private static void edgesEverMade() {
        GristGraph x = ofNodes(2);
        x.rule('a', 3);
        for (int i = 0; i < 13; i++) {
            x.edge(0, 0, 1, 1);
        }
        Check.fails("3 refused by a rule", Check.REFUSED, () -> x.edge(3, 0, 0, 1));
        Check.fails("3 refused by its range", Check.ILLEGAL, () -> x.edge(0, 0, 0, 100));
        Check.fails("3 refused by its node", Check.BOUNDS, () -> x.edge(0, 2, 0, 1));
        x.begin();
        x.begin();
        x.use(0);
        for (int i = 13; i < 23; i++) {
            Check.same("3 in one that is given up", x.edge(3, 0, 0, 1), i);
        }
        x.use(1);
        for (int i = 23; i < 33; i++) {
            Check.same("3 in one that is committed", x.edge(1, 1, 1, 1), i);
        }
        x.abort(0);
        Check.same("32 committed", x.commit(1), 'c');
        Check.same("8 those of both graphs", x.edges(), 23);
        for (int i = 33; i < 40; i++) {
            Check.same("3 up to the fortieth", x.edge(2, 0, 0, i), i);
        }
        Check.fails("3 forty were made", Check.STATE, () -> x.edge(0, 0, 0, 1));
        Check.same("5 the fortieth", x.dropEdge(39), 39);
        x.dropNode(1);
        Check.same("8 few are left", x.edges(), 6);
        Check.fails("3 were made, though dropped", Check.STATE, () -> x.edge(0, 0, 0, 1));
        x.begin();
        x.use(2);
        Check.fails("3 in a transaction too", Check.STATE, () -> x.edge(0, 0, 0, 1));
    }

    /** Numbers that do not stand in an int's bits: edge 32 is not edge 0. */
    private static void edgesBeyondThirtyOne() {
        GristGraph x = ofNodes(3);
        for (int i = 0; i < 40; i++) {
            x.edge(i / 10, i % 3, (i + 1) % 3, 1 + i);
        }
        x.step(-1, 'f', 1, 1, -1, -999);
        Check.same("5 edge 32", x.dropEdge(32), 33);
        Check.same("10 edge 0 is left", x.ofEdge(0, 'w'), 1);
        Check.same("5 edge 0", x.dropEdge(0), 1);
        Check.same("10 edge 39", x.ofEdge(39, 'w'), 40);
        Check.fails("10 edge 40", Check.BOUNDS, () -> x.ofEdge(40, 'w'));
        Check.fails("10 edge 64", Check.BOUNDS, () -> x.ofEdge(64, 'w'));
        Check.same("15 from node 0, but for edge 0", x.matches('e', 0, -1), 13);
        Check.same("18 the last one", x.matchAt('e', 0, 12, 0), 39);
        x.begin();
        x.use(0);
        x.dropEdge(39);
        x.use(-1);
        x.dropEdge(7);
        Check.same("32 edge 39 is not edge 7", x.commit(0), 'c');
        Check.fails("10 edge 39 is gone", Check.BOUNDS, () -> x.ofEdge(39, 'w'));
        x.begin();
        x.use(1);
        x.dropEdge(38);
        x.use(-1);
        x.dropEdge(38);
        Check.same("32 edge 38 in both", x.commit(1), 'w');
    }

    /** "At most 4 views" */
    private static void views() {
        GristGraph x = ofNodes(1);
        Check.same("11 first", x.view(15, 15), 0);
        Check.fails("11 refused", Check.ILLEGAL, () -> x.view(16, 15));
        Check.same("11 a like one", x.view(15, 15), 1);
        Check.same("11 third", x.view(0, 15), 2);
        Check.fails("12 not made yet", Check.BOUNDS, () -> x.through(3));
        Check.same("11 fourth", x.view(15, 0), 3);
        Check.same("12 fourth", x.through(3), -1);
        Check.fails("11 fifth", Check.STATE, () -> x.view(15, 15));
        Check.same("12 is used still", x.through(-1), 3);
        Check.fails("12 fifth", Check.BOUNDS, () -> x.through(4));
    }

    /** "a row of at most 4 steps" */
    private static void steps() {
        GristGraph x = ofNodes(2);
        x.edge(0, 0, 1, 1);
        for (int round = 0; round < 3; round++) {
            for (int i = 1; i <= 4; i++) {
                Check.same("13 typed", x.step(0, 'f', 0, 1, -1, -999), i);
                Check.fails("13 refused", Check.ILLEGAL, () -> x.step(0, 'f', 0, 5, -1, 0));
            }
            Check.fails("13 fifth", Check.STATE, () -> x.step(0, 'f', 4, 4, 3, 999));
            Check.same("15 by four steps", x.matches('e', 0, -1), 2);
            Check.same("14 four", x.wipe(), 4);
        }
    }

    /** "At most 4 walks": those at their end, or from a node that is gone, count as well. */
    private static void walks() {
        GristGraph x = ofNodes(2);
        x.open('e', 0);
        x.goOn(0, 1);
        Check.same("20 at its end", x.goOn(0, 1), 'e');
        Check.same("19 second", x.open('n', 1), 1);
        x.dropNode(1);
        Check.fails("19 refused", Check.BOUNDS, () -> x.open('n', 1));
        Check.fails("19 refused too", Check.ILLEGAL, () -> x.open('N', 0));
        x.begin();
        x.use(0);
        Check.same("19 in a transaction", x.open('e', 0), 2);
        x.abort(0);
        Check.same("19 fourth", x.open('e', 0), 3);
        Check.fails("19 fifth", Check.STATE, () -> x.open('e', 0));
        for (int i = 1; i < 4; i++) {
            Check.same("20 each of them", x.goOn(i, 1), 'f');
        }
    }

    /** "At most 4 closures", perhaps of one kind. */
    private static void closures() {
        GristGraph x = ofNodes(2);
        x.edge(2, 0, 1, 1);
        for (int i = 0; i < 4; i++) {
            Check.fails("24 refused", Check.ILLEGAL, () -> x.closure(-1));
            Check.same("24 of one kind", x.closure(2), i);
        }
        Check.fails("24 fifth", Check.STATE, () -> x.closure(2));
        x.edge(2, 1, 0, 1);
        for (int i = 0; i < 4; i++) {
            Check.same("26 each of them", x.pairs(i), 4);
            Check.same("27 each of them", x.changes(i, true), 3);
        }
    }

    /** "At most 6 rules", by both calls. */
    private static void rules() {
        GristGraph x = ofNodes(2);
        Check.same("28 first", x.degrees(true, 0, 0, 0, 1), 0);
        Check.fails("28 refused", Check.REFUSED, () -> x.degrees(true, 0, 0, 1, 1));
        Check.fails("29 refused", Check.ILLEGAL, () -> x.rule('b', 1));
        Check.same("29 second", x.rule('u', 0), 1);
        Check.same("29 a like one", x.rule('u', 0), 2);
        Check.same("28 fourth", x.degrees(false, 0, 0, 0, 1), 3);
        Check.same("29 fifth", x.rule('a', 1), 4);
        Check.same("29 sixth", x.rule('a', 2), 5);
        Check.fails("29 seventh", Check.STATE, () -> x.rule('a', 3));
        Check.fails("28 seventh", Check.STATE, () -> x.degrees(true, 0, 0, 0, 1));
        x.edge(0, 0, 1, 1);
        Check.fails("28 the first is kept", Check.REFUSED, () -> x.edge(0, 0, 0, 1));
        Check.fails("29 the second is kept", Check.REFUSED, () -> x.set(0, 1));
        Check.fails("28 the fourth is kept", Check.REFUSED, () -> x.edge(0, 1, 1, 1));
        Check.fails("29 the fifth is kept", Check.REFUSED, () -> x.edge(1, 1, 1, 1));
        Check.fails("29 the sixth is kept", Check.REFUSED, () -> x.edge(2, 1, 1, 1));
        Check.same("29 the seventh is not", x.edge(3, 1, 1, 1), 1);
    }

    /** "At most 3 are open": one that is over makes room, in whatever way it ended. */
    private static void openTransactions() {
        GristGraph x = ofNodes(2);
        for (int i = 0; i < 3; i++) {
            Check.same("30 begun", x.begin(), i);
        }
        Check.fails("30 fourth", Check.STATE, () -> x.begin());
        x.abort(1);
        Check.same("30 behind one given up", x.begin(), 3);
        Check.fails("30 three again", Check.STATE, () -> x.begin());
        Check.same("32 c", x.commit(0), 'c');
        Check.same("30 behind a committed one", x.begin(), 4);
        x.use(4);
        x.set(0, 9);
        x.use(-1);
        x.set(0, 8);
        Check.fails("30 three still", Check.STATE, () -> x.begin());
        Check.same("32 w", x.commit(4), 'w');
        Check.same("30 behind one refused", x.begin(), 5);
        Check.fails("30 three at last", Check.STATE, () -> x.begin());
    }

    /** "numbered by all that were ever begun, 20 at most" */
    private static void begunTransactions() {
        GristGraph x = ofNodes(1);
        for (int i = 0; i < 19; i++) {
            Check.same("30 begun", x.begin(), i);
            Check.same("33 given up", x.abort(i), 0);
        }
        Check.same("30 twentieth", x.begin(), 19);
        Check.fails("30 twenty-first, one open", Check.STATE, () -> x.begin());
        Check.same("31 twentieth", x.use(19), -1);
        x.set(0, 3);
        Check.same("32 twentieth", x.commit(19), 'c');
        Check.fails("30 twenty-first, none open", Check.STATE, () -> x.begin());
        Check.same("9 it is done", x.ofNode(0, 'v'), 3);
        Check.fails("31 never begun", Check.BOUNDS, () -> x.use(20));
    }

    /** "At most 4 watches": one whose node is gone counts as well. */
    private static void watches() {
        GristGraph x = ofNodes(3);
        x.watch('e', 2);
        x.dropNode(2);
        Check.fails("34 refused", Check.BOUNDS, () -> x.watch('e', 2));
        for (int i = 1; i < 4; i++) {
            Check.same("34 watch", x.watch('e', 0), i);
        }
        Check.fails("34 fifth", Check.STATE, () -> x.watch('e', 0));
        x.dropNode(0);
        Check.fails("34 fifth, all nodes gone", Check.STATE, () -> x.watch('e', 1));
        for (int i = 0; i < 4; i++) {
            Check.same("35 each of them", x.news(i, false), 1);
        }
    }

    /** Rungs of parallel edges make 1 + 9 + 18 + 198 + 2772 = 2998 rows, and some edges more. */
    private static GristGraph rows(int more) {
        GristGraph x = ofNodes(6);
        int[] rungs = {9, 2, 11, 14};
        for (int i = 0; i < rungs.length; i++) {
            for (int j = 0; j < rungs[i]; j++) {
                x.edge(0, i, i + 1, 1);
            }
        }
        for (int i = 0; i < more; i++) {
            x.edge(0, 0, 5, 1);
        }
        x.step(0, 'f', 0, 4, -1, -999);
        return x;
    }

    /** "more than 3000, the empty one counted, is refused; walks are not" */
    private static void rowsOfQuestions() {
        for (char way : new char[] {'e', 'n'}) {
            GristGraph x = rows(2);
            Check.same("15 3000 rows", x.matches(way, 0, -1), 3000);
            Check.same("15 3000 rows, to one", x.matches(way, 0, 5), 2);
            Check.same("16 3000 rows", x.shortest(way, 0, 4), 4);
            Check.same("17 3000 rows", x.allShortest(way, 0, 4), 2772);
            Check.same("18 3000 rows, the last", x.matchAt(way, 0, 2999, 0), 37);
            Check.fails("18 3000 rows, the next", Check.NO_SUCH, () -> x.matchAt(way, 0, 3000, 0));
            Check.same("34 3000 rows", x.watch(way, 0), 0);
            GristGraph y = rows(3);
            Check.fails("15 3001 rows", Check.REFUSED, () -> y.matches(way, 0, -1));
            Check.fails("15 3001 rows, to itself", Check.REFUSED, () -> y.matches(way, 0, 0));
            Check.fails("16 3001 rows", Check.REFUSED, () -> y.shortest(way, 0, 0));
            Check.fails("17 3001 rows", Check.REFUSED, () -> y.allShortest(way, 0, 0));
            Check.fails("18 3001 rows", Check.REFUSED, () -> y.matchAt(way, 0, 1, 0));
            Check.fails("34 3001 rows", Check.REFUSED, () -> y.watch(way, 0));
            Check.same("34 none is kept", y.watch(way, 1), 0);
            Check.same("19 walks are not refused", y.open(way, 0), 0);
            int found = 0;
            while (y.goOn(0, 200) == 'f') {
                found++;
                if (found > 400) {
                    break;
                }
            }
            Check.same("20 a walk beyond", found, 401);
            y.view(15, 15);
            y.through(0);
            Check.fails("15 3001 rows through a view", Check.REFUSED, () -> y.matches(way, 0, 0));
        }
        GristGraph z = rows(3);
        z.dropEdge(36);
        Check.same("15 3000 rows again", z.matches('e', 0, -1), 3000);
    }

    /** What is not in the view, or not of the kind, makes no row. */
    private static void rowsOfOneKindOnly() {
        GristGraph x = rows(2);
        x.edge(1, 0, 5, 1);
        Check.same("15 another kind", x.matches('e', 0, -1), 3000);
        x.wipe();
        x.step(-1, 'f', 0, 4, -1, -999);
        Check.fails("15 any kind", Check.REFUSED, () -> x.matches('e', 0, -1));
        x.view(15, 1);
        x.through(0);
        Check.same("15 not in the view", x.matches('e', 0, -1), 3000);
        x.through(-1);
        x.begin();
        x.use(0);
        x.dropEdge(0);
        Check.same("15 in a transaction", x.matches('e', 0, -1), 3001 - 1 - 2 - 22 - 308);
    }

    /**
     * A row begins a match though it cannot be gone on with to one, though its last node is not as
     * asked, and though it matches nothing itself; behind a whole step the node has to be as asked.
     */
    private static void rowsAreThoseThatBegin() {
        GristGraph x = rows(2);
        x.wipe();
        x.step(0, 'f', 4, 4, 3, 999);
        Check.same("15 3000 rows, none a match", x.matches('e', 0, -1), 0);
        x.edge(0, 0, 5, 1);
        Check.fails("15 3001 rows, none a match", Check.REFUSED, () -> x.matches('e', 0, -1));
        x.wipe();
        x.step(0, 'f', 3, 3, 3, 999);
        x.step(0, 'f', 1, 1, -1, -999);
        Check.same("15 none goes on from a node not as asked", x.matches('e', 0, -1), 0);
        x.wipe();
        x.step(0, 'f', 3, 3, 0, -999);
        x.step(0, 'f', 1, 1, -1, -999);
        Check.fails("15 each goes on from one as asked", Check.REFUSED,
                () -> x.matches('e', 0, -1));
        x.set(0, -999);
        x.wipe();
        x.step(0, 'f', 0, 0, 3, 999);
        x.step(0, 'f', 4, 4, -1, -999);
        Check.same("15 only the empty one begins", x.matches('e', 0, -1), 0);
    }

    /** "another one than any number if the question is refused there" */
    private static void rowsOfAnswers() {
        // Refused by now, a number at its beginning.
        GristGraph x = rows(2);
        x.begin();
        x.use(0);
        x.matches('e', 0, 0);
        x.use(-1);
        x.edge(0, 0, 5, 1);
        Check.same("32 3001 rows by now", x.commit(0), 'p');
        // Not refused at 3000 rows: there is the one match as before.
        GristGraph y = rows(1);
        y.begin();
        y.use(0);
        y.matches('e', 0, 0);
        y.use(-1);
        y.edge(0, 0, 5, 1);
        Check.same("32 3000 rows by now", y.commit(0), 'c');
        // Refused at its beginning, in the transaction not, by now as many as there.
        GristGraph z = rows(3);
        z.begin();
        z.begin();
        z.use(0);
        z.dropEdge(36);
        Check.same("15 3000 rows in it", z.matches('e', 0, 0), 1);
        z.use(1);
        z.dropEdge(37);
        Check.same("15 3000 rows in the other one", z.matches('e', 0, 0), 1);
        z.use(-1);
        z.set(4, 7);
        Check.same("32 3001 rows, as at its beginning", z.commit(0), 'c');
        z.set(4, 8);
        Check.same("32 3000 rows by now", z.commit(1), 'p');
    }

    /** "while more than 3000 rows begin a match, ... it has none" */
    private static void rowsOfWatches() {
        GristGraph x = rows(1);
        x.watch('e', 0);
        x.edge(0, 0, 5, 1);
        Check.same("35 3000 rows, found", x.news(0, true), 1);
        Check.same("35 3000 rows, lost", x.news(0, false), 0);
        x.edge(0, 0, 5, 1);
        Check.same("35 3001 rows, found", x.news(0, true), 1);
        Check.same("35 3001 rows, lost", x.news(0, false), 3000);
        x.edge(0, 0, 5, 1);
        x.dropEdge(36);
        Check.same("35 3001 rows still, found", x.news(0, true), 1);
        Check.same("35 3001 rows still, lost", x.news(0, false), 3000);
        x.dropEdge(37);
        Check.same("35 3000 rows again, found", x.news(0, true), 3001);
        Check.same("35 3000 rows again, lost", x.news(0, false), 3000);
    }

    /** "steps: 1 to 200": as many as are told are made, no more. */
    private static void stepsOfOneCall() {
        GristGraph x = rows(0);
        x.wipe();
        x.step(0, 'f', 4, 4, 3, -999);
        x.open('n', 0);
        int made = 0;
        for (int i = 0; i < 14; i++) {
            Check.same("20 pauses", x.goOn(0, 200), 'p');
            made += 200;
            Check.same("23 all that were told", x.steps(0), made);
        }
        Check.same("20 pauses by one", x.goOn(0, 1), 'p');
        Check.same("23 one more", x.steps(0), 2801);
        Check.same("20 pauses ahead of the last", x.goOn(0, 195), 'p');
        Check.same("20 the last, none is left", x.goOn(0, 1), 'e');
        Check.same("23 all but the empty one", x.steps(0), 2997);
        Check.same("20 none", x.goOn(0, 200), 'e');
        Check.same("23 no more", x.steps(0), 2997);
    }

    /** Four steps of four repeats: a row of sixteen edges, over two nodes again and again. */
    private static void longestRow() {
        GristGraph x = ofNodes(2);
        for (int i = 0; i < 17; i++) {
            x.edge(0, i % 2, (i + 1) % 2, 1);
        }
        for (int i = 0; i < 4; i++) {
            x.step(0, i % 2 == 0 ? 'f' : 'b', 4, 4, -1, -999);
        }
        x.open('e', 0);
        Check.same("20 finds", findSome(x), 'f');
        Check.same("22 its sixteenth edge", x.foundAt(0, 15) >= 0, true);
        Check.fails("22 no seventeenth", Check.NO_SUCH, () -> x.foundAt(0, 16));
        GristGraph y = new GristGraph();
        for (int i = 0; i < 14; i++) {
            y.node(0, i);
        }
        for (int i = 0; i < 14; i++) {
            y.edge(0, i, (i + 1) % 14, 1);
        }
        for (int i = 0; i < 4; i++) {
            y.step(0, 'f', 0, 4, -1, -999);
        }
        Check.same("15 by edges round all nodes", y.matches('e', 0, -1), 15);
        Check.same("18 its fourteenth edge", y.matchAt('e', 0, 14, 13), 13);
        Check.same("15 by nodes over all nodes", y.matches('n', 0, -1), 14);
        Check.same("18 its thirteenth edge", y.matchAt('n', 0, 13, 12), 12);
        Check.fails("18 no fourteenth by nodes", Check.NO_SUCH, () -> y.matchAt('n', 0, 13, 13));
    }

    private static char findSome(GristGraph x) {
        char told = 'p';
        for (int i = 0; i < 100 && told == 'p'; i++) {
            told = x.goOn(0, 200);
        }
        return told;
    }

    /** "at most 512 calls after it has been made": the last of them is as good as the first. */
    private static void callsOfOneObject() {
        for (int changed = 0; changed < 2; changed++) {
            GristGraph x = ofNodes(2);
            x.edge(0, 0, 0, 1);
            x.step(0, 'f', 0, 1, -1, -999);
            x.begin();
            x.use(0);
            // Six calls by now, then 503 questions and three calls more: the last is the commit.
            x.matches('e', changed, -1);
            for (int i = 0; i < 502; i++) {
                x.matches('e', 1 - changed, -1);
            }
            x.use(-1);
            x.dropEdge(0);
            Check.same("32 the last call", x.commit(0), 'p');
        }
        GristGraph y = ofNodes(2);
        y.edge(0, 0, 0, 1);
        y.step(0, 'f', 0, 1, -1, -999);
        y.begin();
        y.use(0);
        for (int i = 0; i < 502; i++) {
            y.matches('e', 1, -1);
        }
        y.matches('e', 0, -1);
        y.use(-1);
        y.dropEdge(0);
        Check.same("32 by the last question", y.commit(0), 'p');
    }
}
