import java.util.ArrayList;
import java.util.NoSuchElementException;

/**
 * A graph store: a shared graph and transactions on it, views, patterns with their matches and
 * walks, closures, rules, watches, costs and flows. Nodes, edges and states of a pattern are bits
 * of numbers throughout, so that a graph is copied and compared at the price of a few numbers.
 */
public final class GristGraph {
    private static final int MOST_NODES = 14;
    private static final int MOST_EDGES = 40;
    // One more than are ever made: whether a rule refuses a new one is asked ahead of whether
    // there is a number left for it, so it is tried in the place behind the last.
    private static final int NODE_ROOM = 15;
    private static final int EDGE_ROOM = 41;
    private static final int MOST_KIND = 3;
    private static final int MOST_KIND_BITS = 15;
    private static final int MOST_VALUE = 999;
    private static final int MOST_WEIGHT = 99;
    private static final int MOST_STEPS = 4;
    private static final int MOST_REPEATS = 4;
    // A step of a pattern has a state for each number of repeats, 0 to 4.
    private static final int STATES = 5;
    private static final int ROW_ROOM = 17;
    private static final int MOST_ROWS = 3000;
    private static final int MOST_TURNS = 1000;
    private static final int MOST_AUGMENTS = 4000;
    private static final int MOST_VIEWS = 4;
    private static final int MOST_WALKS = 4;
    private static final int MOST_CLOSURES = 4;
    private static final int MOST_WATCHES = 4;
    private static final int MOST_RULES = 6;
    private static final int MOST_DEGREE = 9;
    private static final int MOST_OPEN = 3;
    private static final int MOST_BEGUN = 20;
    private static final int MOST_GOING = 200;
    private static final int MOST_QUESTIONS = 512;
    private static final int NONE = -1;
    private static final int REFUSED = -1;
    private static final int FAR = 1000000;

    private final Parts parts;
    private final Graph shared;
    // The graph as a change would leave it, before the change is accepted.
    private final Graph trial;
    // The graph that a question sees: that in use, through the view in use.
    private final Graph sight;
    private final Net net;
    private final Rows rows;
    private final int[] viewNodeKinds;
    private final int[] viewEdgeKinds;
    private final ArrayList<Walk> walks;
    private final ArrayList<Closure> closures;
    private final ArrayList<Rule> rules;
    private final ArrayList<Transaction> transactions;
    private final ArrayList<Watch> watches;
    private final int[] table;
    private final int[] line;
    private final int[] queue;
    // Replaced, never changed, when a step is typed or all are wiped: questions keep the list.
    private ArrayList<Step> pattern;
    private int viewCount;
    private int usedView;
    private int usedTransaction;

    public GristGraph() {
        Parts ownParts = new Parts();
        Net ownNet = new Net();
        parts = ownParts;
        net = ownNet;
        rows = new Rows(ownParts, ownNet);
        shared = new Graph();
        trial = new Graph();
        sight = new Graph();
        viewNodeKinds = new int[MOST_VIEWS];
        viewEdgeKinds = new int[MOST_VIEWS];
        walks = new ArrayList<Walk>();
        closures = new ArrayList<Closure>();
        rules = new ArrayList<Rule>();
        transactions = new ArrayList<Transaction>();
        watches = new ArrayList<Watch>();
        table = new int[NODE_ROOM * NODE_ROOM];
        line = new int[NODE_ROOM];
        queue = new int[NODE_ROOM];
        pattern = new ArrayList<Step>();
        viewCount = 0;
        usedView = NONE;
        usedTransaction = NONE;
    }

    // ---- the graph

    public int node(int kind, int value)
            throws IllegalArgumentException, UnsupportedOperationException, IllegalStateException {
        if (!isIn(kind, 0, MOST_KIND) || !isIn(value, -MOST_VALUE, MOST_VALUE)) {
            throw new IllegalArgumentException("a kind is 0 to 3, a value -999 to 999");
        }
        int number = parts.nodesMade;
        trial.take(graphInUse());
        trial.addNode(parts, number, kind, value);
        if (isTrialRefused()) {
            throw new UnsupportedOperationException("a rule would be broken");
        }
        if (number >= MOST_NODES) {
            throw new IllegalStateException("14 nodes were made");
        }
        parts.nodesMade = number + 1;
        settle(transactionInUse(), 1 << number, 0L, 0, 0);
        return number;
    }

    public int edge(int kind, int from, int to, int weight)
            throws IndexOutOfBoundsException, IllegalArgumentException,
            UnsupportedOperationException, IllegalStateException {
        Graph graph = graphInUse();
        if (!graph.hasNode(from) || !graph.hasNode(to)) {
            throw new IndexOutOfBoundsException("no such node");
        }
        if (!isIn(kind, 0, MOST_KIND) || !isIn(weight, 1, MOST_WEIGHT)) {
            throw new IllegalArgumentException("a kind is 0 to 3, a weight 1 to 99");
        }
        int number = parts.edgesMade;
        parts.describeEdge(number, kind, from, to, weight);
        trial.take(graph);
        trial.edgeBits |= 1L << number;
        if (isTrialRefused()) {
            throw new UnsupportedOperationException("a rule would be broken");
        }
        if (number >= MOST_EDGES) {
            throw new IllegalStateException("40 edges were made");
        }
        parts.edgesMade = number + 1;
        settle(transactionInUse(), 0, 1L << number, 0, 1 << from | 1 << to);
        return number;
    }

    public int dropNode(int node) throws IndexOutOfBoundsException, UnsupportedOperationException {
        Graph graph = graphInUse();
        if (!graph.hasNode(node)) {
            throw new IndexOutOfBoundsException("no such node");
        }
        int bit = 1 << node;
        long gone = graph.edgesAt(parts, node);
        trial.take(graph);
        trial.nodeBits &= ~bit;
        trial.edgeBits &= ~gone;
        if (isTrialRefused()) {
            throw new UnsupportedOperationException("a rule would be broken");
        }
        settle(transactionInUse(), bit, gone, bit, 0);
        return Long.bitCount(gone);
    }

    public int dropEdge(int edge) throws IndexOutOfBoundsException, UnsupportedOperationException {
        Graph graph = graphInUse();
        if (!graph.hasEdge(edge)) {
            throw new IndexOutOfBoundsException("no such edge");
        }
        long bit = 1L << edge;
        trial.take(graph);
        trial.edgeBits &= ~bit;
        if (isTrialRefused()) {
            throw new UnsupportedOperationException("a rule would be broken");
        }
        settle(transactionInUse(), 0, bit, 0, 0);
        return parts.weights[edge];
    }

    public int set(int node, int value)
            throws IndexOutOfBoundsException, IllegalArgumentException,
            UnsupportedOperationException {
        Graph graph = graphInUse();
        if (!graph.hasNode(node)) {
            throw new IndexOutOfBoundsException("no such node");
        }
        if (!isIn(value, -MOST_VALUE, MOST_VALUE)) {
            throw new IllegalArgumentException("a value is -999 to 999");
        }
        int before = graph.values[node];
        trial.take(graph);
        trial.values[node] = value;
        if (isTrialRefused()) {
            throw new UnsupportedOperationException("a rule would be broken");
        }
        settle(transactionInUse(), 1 << node, 0L, 0, 0);
        return before;
    }

    public int nodes() {
        return Integer.bitCount(look().nodeBits);
    }

    public int edges() {
        return Long.bitCount(look().edgeBits);
    }

    public int ofNode(int node, char what)
            throws IndexOutOfBoundsException, IllegalArgumentException {
        Graph graph = look();
        if (!graph.hasNode(node)) {
            throw new IndexOutOfBoundsException("no such node");
        }
        if (what == 'k') {
            return parts.nodeKinds[node];
        }
        if (what == 'v') {
            return graph.values[node];
        }
        if (what == 'o' || what == 'i') {
            return graph.countEdges(parts, node, what == 'o', NONE);
        }
        throw new IllegalArgumentException("of a node there are 'k', 'v', 'o' and 'i'");
    }

    public int ofEdge(int edge, char what)
            throws IndexOutOfBoundsException, IllegalArgumentException {
        Graph graph = look();
        if (!graph.hasEdge(edge)) {
            throw new IndexOutOfBoundsException("no such edge");
        }
        if (what == 'k') {
            return parts.edgeKinds[edge];
        }
        if (what == 'f') {
            return parts.froms[edge];
        }
        if (what == 't') {
            return parts.tos[edge];
        }
        if (what == 'w') {
            return parts.weights[edge];
        }
        throw new IllegalArgumentException("of an edge there are 'k', 'f', 't' and 'w'");
    }

    // ---- views

    public int view(int nodeKinds, int edgeKinds)
            throws IllegalArgumentException, IllegalStateException {
        if (!isIn(nodeKinds, 0, MOST_KIND_BITS) || !isIn(edgeKinds, 0, MOST_KIND_BITS)) {
            throw new IllegalArgumentException("kinds are bits 0 to 3");
        }
        int number = viewCount;
        if (number >= MOST_VIEWS) {
            throw new IllegalStateException("there are 4 views");
        }
        viewNodeKinds[number] = nodeKinds;
        viewEdgeKinds[number] = edgeKinds;
        viewCount = number + 1;
        return number;
    }

    public int through(int view) throws IndexOutOfBoundsException {
        if (!isIn(view, NONE, viewCount - 1)) {
            throw new IndexOutOfBoundsException("no such view");
        }
        int before = usedView;
        usedView = view;
        return before;
    }

    // ---- patterns and walks

    public int step(int kind, char direction, int least, int most, int nodeKind, int value)
            throws IllegalArgumentException, IllegalStateException {
        if (!isIn(kind, NONE, MOST_KIND) || !isIn(nodeKind, NONE, MOST_KIND)
                || !isIn(least, 0, MOST_REPEATS) || !isIn(most, least, MOST_REPEATS)
                || !isIn(value, -MOST_VALUE, MOST_VALUE)) {
            throw new IllegalArgumentException("a number is out of range");
        }
        if (direction != 'f' && direction != 'b') {
            throw new IllegalArgumentException("a direction is 'f' or 'b'");
        }
        if (pattern.size() >= MOST_STEPS) {
            throw new IllegalStateException("there are 4 steps");
        }
        ArrayList<Step> longer = new ArrayList<Step>();
        for (int i = 0; i < pattern.size(); i++) {
            longer.add(pattern.get(i));
        }
        longer.add(new Step(kind, direction == 'f', least, most, nodeKind, value));
        pattern = longer;
        return longer.size();
    }

    public int wipe() {
        int had = pattern.size();
        pattern = new ArrayList<Step>();
        return had;
    }

    public int matches(char way, int from, int to)
            throws IndexOutOfBoundsException, IllegalArgumentException,
            UnsupportedOperationException {
        int count = ask(way, from, to, NONE);
        remember(way, from, to, count);
        return count;
    }

    public int shortest(char way, int from, int to)
            throws IndexOutOfBoundsException, IllegalArgumentException,
            UnsupportedOperationException, NoSuchElementException {
        if (ask(way, from, to, NONE) == 0) {
            throw new NoSuchElementException("no match");
        }
        return rows.leastLength;
    }

    public int allShortest(char way, int from, int to)
            throws IndexOutOfBoundsException, IllegalArgumentException,
            UnsupportedOperationException {
        ask(way, from, to, NONE);
        return rows.leastCount;
    }

    public int matchAt(char way, int from, int index, int place)
            throws IndexOutOfBoundsException, IllegalArgumentException,
            UnsupportedOperationException, NoSuchElementException {
        int count = ask(way, from, NONE, index);
        if (!isIn(index, 0, count - 1) || !isIn(place, 0, rows.pickedLength - 1)) {
            throw new NoSuchElementException("no such match or place");
        }
        return rows.picked[place];
    }

    public int open(char way, int from)
            throws IndexOutOfBoundsException, IllegalArgumentException, IllegalStateException {
        Graph graph = look();
        if (!graph.hasNode(from)) {
            throw new IndexOutOfBoundsException("no such node");
        }
        if (!isWay(way)) {
            throw new IllegalArgumentException("a way is 'e' or 'n'");
        }
        if (walks.size() >= MOST_WALKS) {
            throw new IllegalStateException("there are 4 walks");
        }
        Net own = new Net();
        own.weave(parts, graph, pattern);
        Walk walk = new Walk(new Rows(parts, own));
        walk.start(own, way, from);
        walks.add(walk);
        return walks.size() - 1;
    }

    public char goOn(int walk, int steps)
            throws IndexOutOfBoundsException, IllegalArgumentException {
        if (!isIn(walk, 0, walks.size() - 1)) {
            throw new IndexOutOfBoundsException("no such walk");
        }
        if (!isIn(steps, 1, MOST_GOING)) {
            throw new IllegalArgumentException("steps are 1 to 200");
        }
        return walks.get(walk).proceed(steps);
    }

    public int found(int walk) throws IndexOutOfBoundsException {
        if (!isIn(walk, 0, walks.size() - 1)) {
            throw new IndexOutOfBoundsException("no such walk");
        }
        return walks.get(walk).foundCount;
    }

    public int foundAt(int walk, int place)
            throws IndexOutOfBoundsException, NoSuchElementException {
        if (!isIn(walk, 0, walks.size() - 1)) {
            throw new IndexOutOfBoundsException("no such walk");
        }
        Walk known = walks.get(walk);
        if (!isIn(place, 0, known.lastLength - 1)) {
            throw new NoSuchElementException("no match found, or no such place");
        }
        return known.last[place];
    }

    public int steps(int walk) throws IndexOutOfBoundsException {
        if (!isIn(walk, 0, walks.size() - 1)) {
            throw new IndexOutOfBoundsException("no such walk");
        }
        return walks.get(walk).stepCount;
    }

    // ---- closures and rules

    public int closure(int kind) throws IllegalArgumentException, IllegalStateException {
        if (!isIn(kind, 0, MOST_KIND)) {
            throw new IllegalArgumentException("a kind is 0 to 3");
        }
        if (closures.size() >= MOST_CLOSURES) {
            throw new IllegalStateException("there are 4 closures");
        }
        Closure kept = new Closure(kind);
        kept.start(parts, shared);
        closures.add(kept);
        return closures.size() - 1;
    }

    public boolean reaches(int closure, int from, int to) throws IndexOutOfBoundsException {
        if (!isIn(closure, 0, closures.size() - 1)) {
            throw new IndexOutOfBoundsException("no such closure");
        }
        if (!shared.hasNode(from) || !shared.hasNode(to)) {
            throw new IndexOutOfBoundsException("no such node");
        }
        return (closures.get(closure).ways[from] >> to & 1) == 1;
    }

    public int pairs(int closure) throws IndexOutOfBoundsException {
        if (!isIn(closure, 0, closures.size() - 1)) {
            throw new IndexOutOfBoundsException("no such closure");
        }
        return closures.get(closure).pairCount;
    }

    public int changes(int closure, boolean isCome) throws IndexOutOfBoundsException {
        if (!isIn(closure, 0, closures.size() - 1)) {
            throw new IndexOutOfBoundsException("no such closure");
        }
        Closure kept = closures.get(closure);
        return isCome ? kept.came : kept.went;
    }

    public int degrees(boolean isOut, int nodeKind, int edgeKind, int least, int most)
            throws IllegalArgumentException, UnsupportedOperationException,
            IllegalStateException {
        if (!isIn(nodeKind, 0, MOST_KIND) || !isIn(edgeKind, 0, MOST_KIND)
                || !isIn(least, 0, MOST_DEGREE) || !isIn(most, least, MOST_DEGREE)) {
            throw new IllegalArgumentException("a number is out of range");
        }
        return tell(new Rule(isOut ? 'o' : 'i', nodeKind, edgeKind, least, most));
    }

    public int rule(char rule, int kind)
            throws IllegalArgumentException, UnsupportedOperationException,
            IllegalStateException {
        if (rule != 'u' && rule != 'a') {
            throw new IllegalArgumentException("a rule is 'u' or 'a'");
        }
        if (!isIn(kind, 0, MOST_KIND)) {
            throw new IllegalArgumentException("a kind is 0 to 3");
        }
        return tell(new Rule(rule, kind, kind, 0, 0));
    }

    // ---- transactions and watches

    public int begin() throws IllegalStateException {
        if (countOpen() >= MOST_OPEN || transactions.size() >= MOST_BEGUN) {
            throw new IllegalStateException("3 are open, or 20 were begun");
        }
        Transaction begun = new Transaction();
        begun.start(shared);
        transactions.add(begun);
        return transactions.size() - 1;
    }

    public int use(int transaction) throws IndexOutOfBoundsException {
        if (transaction != NONE && !isOpen(transaction)) {
            throw new IndexOutOfBoundsException("no such transaction is open");
        }
        int before = usedTransaction;
        usedTransaction = transaction;
        return before;
    }

    public char commit(int transaction) throws IndexOutOfBoundsException {
        if (!isOpen(transaction)) {
            throw new IndexOutOfBoundsException("no such transaction is open");
        }
        Transaction own = transactions.get(transaction);
        end(transaction);
        if (own.isCrossed()) {
            return 'w';
        }
        if (hasNewAnswer(own)) {
            return 'p';
        }
        trial.take(shared);
        own.layOn(trial);
        if (!keepsRules(trial)) {
            return 's';
        }
        settle(null, own.ownNodes, own.ownEdges, own.ownDrops, own.ownEnds);
        return 'c';
    }

    public int abort(int transaction) throws IndexOutOfBoundsException {
        if (!isOpen(transaction)) {
            throw new IndexOutOfBoundsException("no such transaction is open");
        }
        end(transaction);
        return transactions.get(transaction).doings;
    }

    public int watch(char way, int from)
            throws IndexOutOfBoundsException, IllegalArgumentException,
            UnsupportedOperationException, IllegalStateException {
        if (!shared.hasNode(from)) {
            throw new IndexOutOfBoundsException("no such node");
        }
        if (!isWay(way)) {
            throw new IllegalArgumentException("a way is 'e' or 'n'");
        }
        int count = countMatches(shared, new Question(pattern, way, from, NONE));
        if (count == REFUSED) {
            throw new UnsupportedOperationException("more than 3000 rows begin a match");
        }
        if (watches.size() >= MOST_WATCHES) {
            throw new IllegalStateException("there are 4 watches");
        }
        Watch kept = new Watch(pattern, way, from, count);
        kept.net.weave(parts, shared, pattern);
        watches.add(kept);
        return watches.size() - 1;
    }

    public int news(int watch, boolean isFound) throws IndexOutOfBoundsException {
        if (!isIn(watch, 0, watches.size() - 1)) {
            throw new IndexOutOfBoundsException("no such watch");
        }
        Watch kept = watches.get(watch);
        return isFound ? kept.foundCount : kept.lostCount;
    }

    // ---- costs, flows, figures

    public int cost(int from, int to) throws IndexOutOfBoundsException, NoSuchElementException {
        Graph graph = look();
        if (!graph.hasNode(from) || !graph.hasNode(to)) {
            throw new IndexOutOfBoundsException("no such node");
        }
        fillCosts(graph, from);
        if (line[to] >= FAR) {
            throw new NoSuchElementException("no way");
        }
        return line[to];
    }

    public int flow(int from, int to) throws IndexOutOfBoundsException, IllegalArgumentException {
        Graph graph = look();
        if (!graph.hasNode(from) || !graph.hasNode(to)) {
            throw new IndexOutOfBoundsException("no such node");
        }
        if (from == to) {
            throw new IllegalArgumentException("both nodes are the same");
        }
        fillCapacities(graph);
        int sum = 0;
        for (int i = 0; i < MOST_AUGMENTS && findPath(from, to); i++) {
            sum += pushAlongPath(from, to);
        }
        return sum;
    }

    public float density() throws ArithmeticException {
        Graph graph = look();
        int count = Integer.bitCount(graph.nodeBits);
        if (count == 0) {
            throw new ArithmeticException("no nodes");
        }
        fillCapacities(graph);
        int joined = 0;
        for (int i = 0; i < table.length; i++) {
            if (table[i] > 0) {
                joined++;
            }
        }
        return (float) joined / (float) (count * count);
    }

    public double meanWeight() throws ArithmeticException {
        Graph graph = look();
        int count = Long.bitCount(graph.edgeBits);
        if (count == 0) {
            throw new ArithmeticException("no edges");
        }
        int sum = 0;
        for (int edge = 0; edge < EDGE_ROOM; edge++) {
            if (graph.hasEdge(edge)) {
                sum += parts.weights[edge];
            }
        }
        return (double) sum / (double) count;
    }

    public long checksum() {
        long sum = 7L;
        for (int node = 0; node < NODE_ROOM; node++) {
            if (shared.hasNode(node)) {
                sum = 31L * sum + node;
                sum = 31L * sum + shared.values[node];
            }
        }
        for (int edge = 0; edge < EDGE_ROOM; edge++) {
            if (shared.hasEdge(edge)) {
                sum = 31L * sum + edge;
            }
        }
        for (int i = 0; i < closures.size(); i++) {
            sum = 31L * sum + closures.get(i).pairCount;
        }
        return sum;
    }

    public boolean isSound() {
        if (!keepsRules(shared)) {
            return false;
        }
        for (int i = 0; i < closures.size(); i++) {
            if (!closures.get(i).isTrue(parts, shared)) {
                return false;
            }
        }
        return true;
    }

    // ---- what the calls share

    private static boolean isIn(int number, int least, int most) {
        return number >= least && number <= most;
    }

    private static boolean isWay(char way) {
        return way == 'e' || way == 'n';
    }

    private Transaction transactionInUse() {
        return isOpen(usedTransaction) ? transactions.get(usedTransaction) : null;
    }

    private Graph graphInUse() {
        Transaction own = transactionInUse();
        return own == null ? shared : own.now;
    }

    private Graph look() {
        sight.take(graphInUse());
        if (isIn(usedView, 0, MOST_VIEWS - 1)) {
            sight.narrow(parts, viewNodeKinds[usedView], viewEdgeKinds[usedView]);
        }
        return sight;
    }

    private boolean keepsRules(Graph graph) {
        for (int i = 0; i < rules.size(); i++) {
            if (!rules.get(i).isKept(parts, graph)) {
                return false;
            }
        }
        return true;
    }

    /** Transactions do without rules until they are committed. */
    private boolean isTrialRefused() {
        return transactionInUse() == null && !keepsRules(trial);
    }

    /** Makes the trial the graph of the transaction, or, without one, that which all share. */
    private void settle(Transaction own, int nodes, long edges, int drops, int ends) {
        if (own != null) {
            own.now.take(trial);
            own.noteOwn(nodes, edges, drops, ends);
            return;
        }
        shared.take(trial);
        for (int i = 0; i < transactions.size(); i++) {
            if (isOpen(i)) {
                transactions.get(i).noteOthers(nodes, edges, drops, ends);
            }
        }
        for (int i = 0; i < closures.size(); i++) {
            closures.get(i).follow(parts, shared);
        }
        for (int i = 0; i < watches.size(); i++) {
            watches.get(i).follow(parts, shared, rows);
        }
    }

    private int tell(Rule told) {
        if (!told.isKept(parts, shared)) {
            throw new UnsupportedOperationException("the shared graph breaks it");
        }
        if (rules.size() >= MOST_RULES) {
            throw new IllegalStateException("there are 6 rules");
        }
        rules.add(told);
        return rules.size() - 1;
    }

    /** Counts the matches that are seen; the rows know more of them, and of the wanted one. */
    private int ask(char way, int from, int to, int wanted) {
        Graph graph = look();
        if (!graph.hasNode(from) || to != NONE && !graph.hasNode(to)) {
            throw new IndexOutOfBoundsException("no such node");
        }
        if (!isWay(way)) {
            throw new IllegalArgumentException("a way is 'e' or 'n'");
        }
        net.weave(parts, graph, pattern);
        rows.start(net, way, from);
        int count = rows.tally(to, wanted);
        if (count == REFUSED) {
            throw new UnsupportedOperationException("more than 3000 rows begin a match");
        }
        return count;
    }

    private void remember(char way, int from, int to, int count) {
        Transaction own = transactionInUse();
        if (own == null || usedView != NONE || own.questions.size() >= MOST_QUESTIONS) {
            return;
        }
        Question question = new Question(pattern, way, from, to);
        // Without doings the transaction still has the graph of its beginning.
        question.answer = own.doings == 0 ? count : countMatches(own.atFirst, question);
        own.questions.add(question);
    }

    private boolean hasNewAnswer(Transaction own) {
        if (own.othersNodes == 0 && own.othersEdges == 0L) {
            return false;
        }
        for (int i = 0; i < own.questions.size(); i++) {
            Question question = own.questions.get(i);
            if (countMatches(shared, question) != question.answer) {
                return true;
            }
        }
        return false;
    }

    private int countMatches(Graph graph, Question question) {
        if (!graph.hasNode(question.from)) {
            return 0;
        }
        if (question.to != NONE && !graph.hasNode(question.to)) {
            return 0;
        }
        net.weave(parts, graph, question.steps);
        rows.start(net, question.way, question.from);
        return rows.tally(question.to, NONE);
    }

    private boolean isOpen(int transaction) {
        return isIn(transaction, 0, transactions.size() - 1)
                && transactions.get(transaction).isOpen;
    }

    private int countOpen() {
        int count = 0;
        for (int i = 0; i < transactions.size(); i++) {
            if (isOpen(i)) {
                count++;
            }
        }
        return count;
    }

    private void end(int transaction) {
        if (isOpen(transaction)) {
            transactions.get(transaction).isOpen = false;
        }
        if (usedTransaction == transaction) {
            usedTransaction = NONE;
        }
    }

    private void fillCosts(Graph graph, int from) {
        for (int node = 0; node < NODE_ROOM; node++) {
            line[node] = node == from ? 0 : FAR;
        }
        boolean isNew = true;
        for (int round = 0; round < NODE_ROOM && isNew; round++) {
            isNew = false;
            for (int edge = 0; edge < EDGE_ROOM; edge++) {
                if (graph.hasEdge(edge) && isCheaper(edge)) {
                    line[parts.tos[edge]] = line[parts.froms[edge]] + parts.weights[edge];
                    isNew = true;
                }
            }
        }
    }

    private boolean isCheaper(int edge) {
        int start = line[parts.froms[edge]];
        return start < FAR && start + parts.weights[edge] < line[parts.tos[edge]];
    }

    private void fillCapacities(Graph graph) {
        for (int i = 0; i < table.length; i++) {
            table[i] = 0;
        }
        for (int edge = 0; edge < EDGE_ROOM; edge++) {
            if (graph.hasEdge(edge)) {
                table[parts.froms[edge] * NODE_ROOM + parts.tos[edge]] += parts.weights[edge];
            }
        }
    }

    /** Finds a shortest path that bears more; each node's line names the one ahead of it. */
    private boolean findPath(int from, int to) {
        for (int node = 0; node < NODE_ROOM; node++) {
            line[node] = NONE;
        }
        line[from] = from;
        queue[0] = from;
        int filled = 1;
        for (int next = 0; next < NODE_ROOM && next < filled; next++) {
            int here = queue[next];
            for (int there = 0; there < NODE_ROOM; there++) {
                if (line[there] == NONE && table[here * NODE_ROOM + there] > 0
                        && filled < NODE_ROOM) {
                    line[there] = here;
                    queue[filled] = there;
                    filled++;
                }
            }
        }
        return line[to] != NONE;
    }

    private int pushAlongPath(int from, int to) {
        int least = FAR;
        int there = to;
        for (int i = 0; i < NODE_ROOM && there != from; i++) {
            int here = line[there];
            least = Math.min(least, table[here * NODE_ROOM + there]);
            there = here;
        }
        there = to;
        for (int i = 0; i < NODE_ROOM && there != from; i++) {
            int here = line[there];
            table[here * NODE_ROOM + there] -= least;
            table[there * NODE_ROOM + here] += least;
            there = here;
        }
        return least;
    }

    /** What never changes of nodes and edges, whichever graphs they are in. */
    private static final class Parts {
        final int[] nodeKinds = new int[NODE_ROOM];
        final int[] edgeKinds = new int[EDGE_ROOM];
        final int[] froms = new int[EDGE_ROOM];
        final int[] tos = new int[EDGE_ROOM];
        final int[] weights = new int[EDGE_ROOM];
        int nodesMade = 0;
        int edgesMade = 0;

        void describeEdge(int number, int kind, int from, int to, int weight) {
            if (isIn(number, 0, EDGE_ROOM - 1)) {
                edgeKinds[number] = kind;
                froms[number] = from;
                tos[number] = to;
                weights[number] = weight;
            }
        }

        int otherEnd(int edge, int node) {
            return froms[edge] == node ? tos[edge] : froms[edge];
        }
    }

    /** Which nodes and edges there are, as bits, and the values of the nodes. */
    private static final class Graph {
        int nodeBits = 0;
        long edgeBits = 0L;
        final int[] values = new int[NODE_ROOM];

        boolean hasNode(int node) {
            return node >= 0 && node < NODE_ROOM && (nodeBits >> node & 1) == 1;
        }

        boolean hasEdge(int edge) {
            return edge >= 0 && edge < EDGE_ROOM && (edgeBits >> edge & 1L) == 1L;
        }

        void take(Graph other) {
            nodeBits = other.nodeBits;
            edgeBits = other.edgeBits;
            System.arraycopy(other.values, 0, values, 0, NODE_ROOM);
        }

        void addNode(Parts parts, int number, int kind, int value) {
            if (isIn(number, 0, NODE_ROOM - 1)) {
                parts.nodeKinds[number] = kind;
                nodeBits |= 1 << number;
                values[number] = value;
            }
        }

        long edgesAt(Parts parts, int node) {
            long bits = 0L;
            for (int edge = 0; edge < EDGE_ROOM; edge++) {
                if (hasEdge(edge) && (parts.froms[edge] == node || parts.tos[edge] == node)) {
                    bits |= 1L << edge;
                }
            }
            return bits;
        }

        int countEdges(Parts parts, int node, boolean isOut, int kind) {
            int count = 0;
            for (int edge = 0; edge < EDGE_ROOM; edge++) {
                int end = isOut ? parts.froms[edge] : parts.tos[edge];
                if (end == node && hasEdge(edge)
                        && (kind == NONE || parts.edgeKinds[edge] == kind)) {
                    count++;
                }
            }
            return count;
        }

        void narrow(Parts parts, int nodeKinds, int edgeKinds) {
            for (int node = 0; node < NODE_ROOM; node++) {
                if ((nodeKinds >> parts.nodeKinds[node] & 1) == 0) {
                    nodeBits &= ~(1 << node);
                }
            }
            for (int edge = 0; edge < EDGE_ROOM; edge++) {
                if ((edgeKinds >> parts.edgeKinds[edge] & 1) == 0
                        || !hasNode(parts.froms[edge]) || !hasNode(parts.tos[edge])) {
                    edgeBits &= ~(1L << edge);
                }
            }
        }
    }

    /** A step of a pattern, as it was typed. */
    private static final class Step {
        final int kind;
        final boolean isForward;
        final int least;
        final int most;
        final int nodeKind;
        final int value;

        Step(int kind, boolean isForward, int least, int most, int nodeKind, int value) {
            this.kind = kind;
            this.isForward = isForward;
            this.least = least;
            this.most = most;
            this.nodeKind = nodeKind;
            this.value = value;
        }

        boolean isFor(int edgeKind) {
            return kind == NONE || kind == edgeKind;
        }

        int nodesAsked(Parts parts, Graph graph) {
            int bits = 0;
            for (int node = 0; node < NODE_ROOM; node++) {
                if (graph.hasNode(node) && graph.values[node] >= value
                        && (nodeKind == NONE || parts.nodeKinds[node] == nodeKind)) {
                    bits |= 1 << node;
                }
            }
            return bits;
        }
    }

    /**
     * A pattern laid over a graph, which is not needed any more then. A row's state is a set of
     * bits, one for each step and number of its repeats that the row can be parted into, and one
     * behind the last step, for a match.
     */
    private static final class Net {
        // For each step and node: the edges that a repeat of the step can take from there.
        final long[] exits = new long[MOST_STEPS * NODE_ROOM];
        final int[] asked = new int[MOST_STEPS];
        // The states of a step from which one more repeat goes on, and those where it is whole.
        final int[] growing = new int[MOST_STEPS];
        final int[] whole = new int[MOST_STEPS];
        int size = 0;

        void weave(Parts parts, Graph graph, ArrayList<Step> steps) {
            size = Math.min(steps.size(), MOST_STEPS);
            for (int i = 0; i < size; i++) {
                Step step = steps.get(i);
                growing[i] = ((1 << step.most) - 1) << (i * STATES);
                whole[i] = ((2 << step.most) - (1 << step.least)) << (i * STATES);
                asked[i] = step.nodesAsked(parts, graph);
                weaveExits(parts, graph, step, i);
            }
        }

        private void weaveExits(Parts parts, Graph graph, Step step, int place) {
            int base = place * NODE_ROOM;
            for (int node = 0; node < NODE_ROOM; node++) {
                exits[base + node] = 0L;
            }
            for (int edge = 0; edge < EDGE_ROOM; edge++) {
                if (graph.hasEdge(edge) && step.isFor(parts.edgeKinds[edge])) {
                    int start = step.isForward ? parts.froms[edge] : parts.tos[edge];
                    exits[base + start] |= 1L << edge;
                }
            }
        }

        /** Whether two nets of one pattern have the same rows from every node. */
        boolean isLike(Net other) {
            for (int i = 0; i < size; i++) {
                if (asked[i] != other.asked[i]) {
                    return false;
                }
            }
            for (int i = 0; i < size * NODE_ROOM; i++) {
                if (exits[i] != other.exits[i]) {
                    return false;
                }
            }
            return true;
        }

        int firstState(int node) {
            int all = 1;
            for (int i = 0; i < size; i++) {
                if ((all & whole[i]) != 0 && (asked[i] >> node & 1) == 1) {
                    all |= 1 << ((i + 1) * STATES);
                }
            }
            return all;
        }

        /** A step that is whole at a node as asked passes on to the next one, without repeats. */
        int nextState(int state, int node, long edgeBit, int nextNode) {
            int all = 0;
            for (int i = 0; i < size && state != 0; i++) {
                if ((exits[i * NODE_ROOM + node] & edgeBit) != 0L) {
                    all |= (state & growing[i]) << 1;
                }
                if ((all & whole[i]) != 0 && (asked[i] >> nextNode & 1) == 1) {
                    all |= 1 << ((i + 1) * STATES);
                }
            }
            return all;
        }

        long edgesOn(int state, int node) {
            long bits = 0L;
            for (int i = 0; i < size; i++) {
                if ((state & growing[i]) != 0) {
                    bits |= exits[i * NODE_ROOM + node];
                }
            }
            return bits;
        }

        boolean isMatch(int state) {
            return (state >> (size * STATES) & 1) == 1;
        }
    }

    /** Goes through the rows that begin a match, in order, and keeps the row where it stands. */
    private static final class Rows {
        final Parts parts;
        final int[] edgeAt = new int[ROW_ROOM];
        final int[] nodeAt = new int[ROW_ROOM];
        final int[] stateAt = new int[ROW_ROOM];
        final int[] twinStateAt = new int[ROW_ROOM];
        final long[] restAt = new long[ROW_ROOM];
        final int[] picked = new int[ROW_ROOM];
        Net net;
        // Another net of the same pattern: the rows that match in both are counted on the way.
        Net twin;
        boolean isPaired = false;
        boolean isByNode = false;
        int length = 0;
        long usedEdges = 0L;
        int usedNodes = 0;
        int matchCount = 0;
        int leastLength = 0;
        int leastCount = 0;
        int commonCount = 0;
        int pickedLength = 0;

        Rows(Parts parts, Net net) {
            this.parts = parts;
            this.net = net;
            this.twin = net;
        }

        /** Stands at the empty row then. */
        void start(Net ownNet, char way, int from) {
            net = ownNet;
            isPaired = false;
            isByNode = way == 'n';
            length = 0;
            usedEdges = 0L;
            usedNodes = 1 << from;
            nodeAt[0] = from;
            stateAt[0] = net.firstState(from);
            restAt[0] = net.edgesOn(stateAt[0], from);
        }

        void pairWith(Net other) {
            twin = other;
            isPaired = true;
            twinStateAt[0] = twin.firstState(nodeAt[0]);
        }

        boolean isMatch() {
            return net.isMatch(stateAt[length]);
        }

        /** Goes to the next row, if there is one. */
        boolean goNext() {
            for (int turn = 0; turn < MOST_TURNS; turn++) {
                long rest = restAt[length];
                if (rest != 0L) {
                    long bit = rest & -rest;
                    restAt[length] = rest & ~bit;
                    if (goAhead(bit)) {
                        return true;
                    }
                } else if (length > 0) {
                    goBack();
                } else {
                    return false;
                }
            }
            return false;
        }

        private boolean goAhead(long bit) {
            int edge = Long.bitCount(bit - 1L);
            if (edge >= EDGE_ROOM || length + 1 >= ROW_ROOM) {
                return false;
            }
            int here = nodeAt[length];
            int there = parts.otherEnd(edge, here);
            if (isByNode && (usedNodes >> there & 1) == 1) {
                return false;
            }
            int state = net.nextState(stateAt[length], here, bit, there);
            if (isPaired) {
                twinStateAt[length + 1] = twin.nextState(twinStateAt[length], here, bit, there);
            }
            edgeAt[length] = edge;
            usedEdges |= bit;
            usedNodes |= 1 << there;
            length++;
            nodeAt[length] = there;
            stateAt[length] = state;
            restAt[length] = net.edgesOn(state, there) & ~usedEdges;
            return true;
        }

        private void goBack() {
            // By edges a node may stand in the row more than once, but then nobody asks.
            usedNodes &= ~(1 << nodeAt[length]);
            length--;
            usedEdges &= ~(1L << edgeAt[length]);
        }

        /** Counts the matches to a node, or to any; REFUSED beyond 3000 rows. */
        int tally(int to, int wanted) {
            matchCount = 0;
            leastLength = ROW_ROOM;
            leastCount = 0;
            commonCount = 0;
            pickedLength = 0;
            for (int count = 1; count <= MOST_ROWS; count++) {
                if (isMatch() && (to == NONE || to == nodeAt[length])) {
                    noteMatch(wanted);
                }
                if (!goNext()) {
                    return matchCount;
                }
            }
            return REFUSED;
        }

        private void noteMatch(int wanted) {
            if (matchCount == wanted) {
                pickedLength = copyTo(picked);
            }
            matchCount++;
            if (length < leastLength) {
                leastLength = length;
                leastCount = 0;
            }
            if (length == leastLength) {
                leastCount++;
            }
            if (isPaired && twin.isMatch(twinStateAt[length])) {
                commonCount++;
            }
        }

        int copyTo(int[] place) {
            int count = Math.min(length, place.length);
            System.arraycopy(edgeAt, 0, place, 0, count);
            return count;
        }
    }

    /** Stands at the row that is its next step; the net keeps the graph of its moment. */
    private static final class Walk {
        final Rows rows;
        final int[] last = new int[ROW_ROOM];
        int lastLength = 0;
        boolean isEmptyDue = false;
        boolean isOver = false;
        int foundCount = 0;
        int stepCount = 0;

        Walk(Rows rows) {
            this.rows = rows;
        }

        void start(Net net, char way, int from) {
            rows.start(net, way, from);
            isEmptyDue = rows.isMatch();
            isOver = !rows.goNext();
        }

        char proceed(int most) {
            if (isEmptyDue) {
                isEmptyDue = false;
                foundCount++;
                return 'f';
            }
            for (int made = 0; made < most && !isOver; made++) {
                stepCount++;
                boolean isFound = rows.isMatch();
                if (isFound) {
                    foundCount++;
                    lastLength = rows.copyTo(last);
                }
                isOver = !rows.goNext();
                if (isFound) {
                    return 'f';
                }
            }
            return isOver ? 'e' : 'p';
        }
    }

    /** How many matches there are, as it was asked in a transaction. */
    private static final class Question {
        final ArrayList<Step> steps;
        final char way;
        final int from;
        final int to;
        int answer = 0;

        Question(ArrayList<Step> steps, char way, int from, int to) {
            this.steps = steps;
            this.way = way;
            this.from = from;
            this.to = to;
        }
    }

    /** Counts what comes and goes among the matches in the shared graph. */
    private static final class Watch {
        final ArrayList<Step> steps;
        final char way;
        final int from;
        Net net = new Net();
        Net spare = new Net();
        boolean isThere = true;
        boolean isRefused = false;
        int matchCount;
        int foundCount = 0;
        int lostCount = 0;

        Watch(ArrayList<Step> steps, char way, int from, int matchCount) {
            this.steps = steps;
            this.way = way;
            this.from = from;
            this.matchCount = matchCount;
        }

        void follow(Parts parts, Graph graph, Rows rows) {
            boolean isStill = graph.hasNode(from);
            spare.weave(parts, graph, steps);
            if (isStill == isThere && spare.isLike(net)) {
                return;
            }
            int count = 0;
            int common = 0;
            boolean isTooMany = false;
            if (isStill) {
                rows.start(spare, way, from);
                rows.pairWith(net);
                count = rows.tally(NONE, NONE);
                common = isRefused ? 0 : rows.commonCount;
                isTooMany = count == REFUSED;
            }
            if (isTooMany) {
                count = 0;
                common = 0;
            }
            foundCount += count - common;
            lostCount += matchCount - common;
            matchCount = count;
            isThere = isStill;
            isRefused = isTooMany;
            Net old = net;
            net = spare;
            spare = old;
        }
    }

    /** The pairs of nodes with a way: for each node, as bits, those to which it has one. */
    private static final class Closure {
        final int kind;
        final int[] ways = new int[NODE_ROOM];
        final int[] fresh = new int[NODE_ROOM];
        int pairCount = 0;
        int pairsAtFirst = 0;
        int came = 0;
        int went = 0;

        Closure(int kind) {
            this.kind = kind;
        }

        void start(Parts parts, Graph graph) {
            fillWays(parts, graph, kind, ways);
            pairCount = countPairs(ways);
            pairsAtFirst = pairCount;
        }

        void follow(Parts parts, Graph graph) {
            fillWays(parts, graph, kind, fresh);
            for (int node = 0; node < NODE_ROOM; node++) {
                came += Integer.bitCount(fresh[node] & ~ways[node]);
                went += Integer.bitCount(ways[node] & ~fresh[node]);
                ways[node] = fresh[node];
            }
            pairCount = countPairs(ways);
        }

        boolean isTrue(Parts parts, Graph graph) {
            fillWays(parts, graph, kind, fresh);
            for (int node = 0; node < NODE_ROOM; node++) {
                if (fresh[node] != ways[node]) {
                    return false;
                }
            }
            return pairCount == countPairs(ways) && came - went == pairCount - pairsAtFirst;
        }

        private static int countPairs(int[] bits) {
            int count = 0;
            for (int i = 0; i < bits.length; i++) {
                count += Integer.bitCount(bits[i]);
            }
            return count;
        }

        static void fillWays(Parts parts, Graph graph, int kind, int[] place) {
            int size = Math.min(place.length, NODE_ROOM);
            for (int node = 0; node < size; node++) {
                place[node] = 0;
            }
            for (int edge = 0; edge < EDGE_ROOM; edge++) {
                if (graph.hasEdge(edge) && parts.edgeKinds[edge] == kind
                        && parts.froms[edge] < size) {
                    place[parts.froms[edge]] |= 1 << parts.tos[edge];
                }
            }
            for (int middle = 0; middle < size; middle++) {
                for (int node = 0; node < size; node++) {
                    if ((place[node] >> middle & 1) == 1) {
                        place[node] |= place[middle];
                    }
                }
            }
        }
    }

    /** A rule by its letter: 'o' and 'i' on degrees, 'u' on values, 'a' on rings. */
    private static final class Rule {
        final char letter;
        final int nodeKind;
        final int edgeKind;
        final int least;
        final int most;
        final int[] ways = new int[NODE_ROOM];

        Rule(char letter, int nodeKind, int edgeKind, int least, int most) {
            this.letter = letter;
            this.nodeKind = nodeKind;
            this.edgeKind = edgeKind;
            this.least = least;
            this.most = most;
        }

        boolean isKept(Parts parts, Graph graph) {
            if (letter == 'u') {
                return areValuesUnlike(parts, graph);
            }
            if (letter == 'a') {
                return isWithoutRing(parts, graph);
            }
            return areDegreesKept(parts, graph);
        }

        private boolean isOfKind(Parts parts, Graph graph, int node) {
            return graph.hasNode(node) && parts.nodeKinds[node] == nodeKind;
        }

        private boolean areDegreesKept(Parts parts, Graph graph) {
            for (int node = 0; node < NODE_ROOM; node++) {
                if (isOfKind(parts, graph, node)) {
                    int count = graph.countEdges(parts, node, letter == 'o', edgeKind);
                    if (!isIn(count, least, most)) {
                        return false;
                    }
                }
            }
            return true;
        }

        private boolean areValuesUnlike(Parts parts, Graph graph) {
            for (int node = 0; node < NODE_ROOM; node++) {
                for (int other = 0; other < node; other++) {
                    if (isOfKind(parts, graph, node) && isOfKind(parts, graph, other)
                            && graph.values[node] == graph.values[other]) {
                        return false;
                    }
                }
            }
            return true;
        }

        private boolean isWithoutRing(Parts parts, Graph graph) {
            Closure.fillWays(parts, graph, edgeKind, ways);
            for (int node = 0; node < NODE_ROOM; node++) {
                if ((ways[node] >> node & 1) == 1) {
                    return false;
                }
            }
            return true;
        }
    }

    /** Its own doings, and those of others in the shared graph since it was begun, as bits. */
    private static final class Transaction {
        final Graph atFirst = new Graph();
        final Graph now = new Graph();
        final ArrayList<Question> questions = new ArrayList<Question>();
        boolean isOpen = true;
        int doings = 0;
        // What was made, dropped or set; which nodes were dropped; at which an edge was made.
        int ownNodes = 0;
        long ownEdges = 0L;
        int ownDrops = 0;
        int ownEnds = 0;
        int othersNodes = 0;
        long othersEdges = 0L;
        int othersDrops = 0;
        int othersEnds = 0;

        void start(Graph shared) {
            atFirst.take(shared);
            now.take(shared);
        }

        void noteOwn(int nodes, long edges, int drops, int ends) {
            doings++;
            ownNodes |= nodes;
            ownEdges |= edges;
            ownDrops |= drops;
            ownEnds |= ends;
        }

        void noteOthers(int nodes, long edges, int drops, int ends) {
            othersNodes |= nodes;
            othersEdges |= edges;
            othersDrops |= drops;
            othersEnds |= ends;
        }

        boolean isCrossed() {
            return (ownNodes & othersNodes) != 0 || (ownEdges & othersEdges) != 0L
                    || (ownEnds & othersDrops) != 0 || (ownDrops & othersEnds) != 0;
        }

        /** What it never touched stays as the others left it; the rest nobody else touched. */
        void layOn(Graph graph) {
            graph.nodeBits = graph.nodeBits & ~ownNodes | now.nodeBits & ownNodes;
            graph.edgeBits = graph.edgeBits & ~ownEdges | now.edgeBits & ownEdges;
            for (int node = 0; node < NODE_ROOM; node++) {
                if ((ownNodes >> node & 1) == 1) {
                    graph.values[node] = now.values[node];
                }
            }
        }
    }
}
