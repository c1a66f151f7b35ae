import java.util.ArrayList;
import java.util.HashSet;
import java.util.List;
import java.util.NoSuchElementException;
import java.util.Set;
import java.util.TreeMap;
import java.util.TreeSet;

/**
 * The document's words put into code as plainly as they go, with the whole Java library and
 * without a thought of speed, to compare GristGraph with in random runs.
 */
final class Model {
    private static final int MOST_ROWS = 3000;

    /** A graph: values of the nodes there, and numbers of the edges there. */
    static final class State {
        final TreeMap<Integer, Integer> values = new TreeMap<>();
        final TreeSet<Integer> edges = new TreeSet<>();

        State copy() {
            State copy = new State();
            copy.values.putAll(values);
            copy.edges.addAll(edges);
            return copy;
        }
    }

    record Edge(int kind, int from, int to, int weight) { }

    record Step(int kind, char direction, int least, int most, int nodeKind, int value) { }

    record View(int nodeKinds, int edgeKinds) { }

    record Question(List<Step> steps, char way, int from, int to, Integer answer) { }

    record Rule(char letter, int nodeKind, int edgeKind, int least, int most) { }

    /** What was done to one node or edge: what is made 'm', dropped 'd', set 's'. */
    record Event(char what, boolean isNode, int number) { }

    interface Doing {
        void on(State state, List<Event> events);
    }

    static final class Transaction {
        State begun;
        State now;
        int eventsAhead;
        boolean isOpen = true;
        final List<Doing> doings = new ArrayList<>();
        final List<Event> events = new ArrayList<>();
        final List<Question> questions = new ArrayList<>();
    }

    static final class Walk {
        State state;
        List<Step> steps;
        char way;
        int from;
        List<Integer> row = new ArrayList<>();
        List<Integer> last;
        boolean isEmptyTold;
        int found;
        int made;
    }

    static final class Closure {
        int kind;
        Set<List<Integer>> pairs;
        int came;
        int went;
    }

    static final class Watch {
        List<Step> steps;
        char way;
        int from;
        Set<List<Integer>> matches;
        int found;
        int lost;
    }

    private final List<Integer> nodeKinds = new ArrayList<>();
    private final List<Edge> made = new ArrayList<>();
    private State shared = new State();
    private final List<Event> events = new ArrayList<>();
    private final List<View> views = new ArrayList<>();
    private int usedView = -1;
    private List<Step> pattern = new ArrayList<>();
    private final List<Walk> walks = new ArrayList<>();
    private final List<Closure> closures = new ArrayList<>();
    private final List<Rule> rules = new ArrayList<>();
    private final List<Transaction> transactions = new ArrayList<>();
    private int used = -1;
    private final List<Watch> watches = new ArrayList<>();

    // ---- the graph

    private static void illegalUnless(boolean isFine) {
        if (!isFine) {
            throw new IllegalArgumentException();
        }
    }

    private static void thereOnly(boolean isFine) {
        if (!isFine) {
            throw new IndexOutOfBoundsException();
        }
    }

    private static void stateOnly(boolean isFine) {
        if (!isFine) {
            throw new IllegalStateException();
        }
    }

    private State current() {
        return used < 0 ? shared : transactions.get(used).now;
    }

    private State seen() {
        State state = current().copy();
        if (usedView >= 0) {
            View view = views.get(usedView);
            state.values.keySet().removeIf(n -> (view.nodeKinds >> nodeKinds.get(n) & 1) == 0);
            state.edges.removeIf(e -> (view.edgeKinds >> made.get(e).kind & 1) == 0
                    || !state.values.containsKey(made.get(e).from)
                    || !state.values.containsKey(made.get(e).to));
        }
        return state;
    }

    /** Refuses by rules, in the shared graph; the doing counts a number that is not made yet. */
    private void refuse(Doing doing) {
        if (used < 0) {
            State state = shared.copy();
            doing.on(state, new ArrayList<>());
            if (!keepsAll(state)) {
                throw new UnsupportedOperationException();
            }
        }
    }

    private void carryOut(Doing doing) {
        if (used >= 0) {
            Transaction own = transactions.get(used);
            doing.on(own.now, own.events);
            own.doings.add(doing);
        } else {
            doing.on(shared, events);
            behindChange();
        }
    }

    int node(int kind, int value) {
        illegalUnless(kind >= 0 && kind <= 3 && value >= -999 && value <= 999);
        int number = nodeKinds.size();
        nodeKinds.add(kind);
        Doing doing = (state, log) -> {
            state.values.put(number, value);
            log.add(new Event('m', true, number));
        };
        try {
            refuse(doing);
            stateOnly(number < 14);
        } catch (RuntimeException e) {
            nodeKinds.remove(number);
            throw e;
        }
        carryOut(doing);
        return number;
    }

    int edge(int kind, int from, int to, int weight) {
        thereOnly(current().values.containsKey(from) && current().values.containsKey(to));
        illegalUnless(kind >= 0 && kind <= 3 && weight >= 1 && weight <= 99);
        int number = made.size();
        made.add(new Edge(kind, from, to, weight));
        Doing doing = (state, log) -> {
            state.edges.add(number);
            log.add(new Event('m', false, number));
        };
        try {
            refuse(doing);
            stateOnly(number < 40);
        } catch (RuntimeException e) {
            made.remove(number);
            throw e;
        }
        carryOut(doing);
        return number;
    }

    private List<Integer> edgesAt(State state, int node) {
        List<Integer> there = new ArrayList<>();
        for (int e : state.edges) {
            if (made.get(e).from == node || made.get(e).to == node) {
                there.add(e);
            }
        }
        return there;
    }

    int dropNode(int node) {
        thereOnly(current().values.containsKey(node));
        Doing doing = (state, log) -> {
            for (int e : edgesAt(state, node)) {
                state.edges.remove(e);
                log.add(new Event('d', false, e));
            }
            state.values.remove(node);
            log.add(new Event('d', true, node));
        };
        int with = edgesAt(current(), node).size();
        refuse(doing);
        carryOut(doing);
        return with;
    }

    int dropEdge(int edge) {
        thereOnly(current().edges.contains(edge));
        Doing doing = (state, log) -> {
            state.edges.remove(edge);
            log.add(new Event('d', false, edge));
        };
        refuse(doing);
        carryOut(doing);
        return made.get(edge).weight;
    }

    int set(int node, int value) {
        thereOnly(current().values.containsKey(node));
        illegalUnless(value >= -999 && value <= 999);
        int before = current().values.get(node);
        Doing doing = (state, log) -> {
            state.values.put(node, value);
            log.add(new Event('s', true, node));
        };
        refuse(doing);
        carryOut(doing);
        return before;
    }

    int nodes() {
        return seen().values.size();
    }

    int edges() {
        return seen().edges.size();
    }

    int ofNode(int node, char what) {
        State state = seen();
        thereOnly(state.values.containsKey(node));
        switch (what) {
            case 'k': return nodeKinds.get(node);
            case 'v': return state.values.get(node);
            case 'o': return (int) state.edges.stream().filter(e -> made.get(e).from == node).count();
            case 'i': return (int) state.edges.stream().filter(e -> made.get(e).to == node).count();
            default: throw new IllegalArgumentException();
        }
    }

    int ofEdge(int edge, char what) {
        thereOnly(seen().edges.contains(edge));
        Edge known = made.get(edge);
        switch (what) {
            case 'k': return known.kind;
            case 'f': return known.from;
            case 't': return known.to;
            case 'w': return known.weight;
            default: throw new IllegalArgumentException();
        }
    }

    // ---- views

    int view(int nodeKindBits, int edgeKindBits) {
        illegalUnless((nodeKindBits & ~15) == 0 && (edgeKindBits & ~15) == 0);
        stateOnly(views.size() < 4);
        views.add(new View(nodeKindBits, edgeKindBits));
        return views.size() - 1;
    }

    int through(int view) {
        thereOnly(view >= -1 && view < views.size());
        int before = usedView;
        usedView = view;
        return before;
    }

    // ---- patterns and walks

    int step(int kind, char direction, int least, int most, int nodeKind, int value) {
        illegalUnless(kind >= -1 && kind <= 3 && (direction == 'f' || direction == 'b')
                && least >= 0 && least <= 4 && most >= least && most <= 4
                && nodeKind >= -1 && nodeKind <= 3 && value >= -999 && value <= 999);
        stateOnly(pattern.size() < 4);
        pattern = new ArrayList<>(pattern);
        pattern.add(new Step(kind, direction, least, most, nodeKind, value));
        return pattern.size();
    }

    int wipe() {
        int had = pattern.size();
        pattern = new ArrayList<>();
        return had;
    }

    private int nodeBehind(int edge, int node) {
        Edge known = made.get(edge);
        return known.from == node ? known.to : known.from;
    }

    private List<Integer> nodesOn(int from, List<Integer> row) {
        List<Integer> on = new ArrayList<>();
        on.add(from);
        for (int e : row) {
            on.add(nodeBehind(e, on.get(on.size() - 1)));
        }
        return on;
    }

    private boolean isAsAsked(State state, Step step, int node) {
        return (step.nodeKind < 0 || step.nodeKind == nodeKinds.get(node))
                && state.values.get(node) >= step.value;
    }

    private boolean takes(Step step, int edge, int node) {
        Edge known = made.get(edge);
        return (step.kind < 0 || step.kind == known.kind)
                && (step.direction == 'f' ? known.from : known.to) == node;
    }

    /** Whether the row from a place on can be parted into the steps from a step on. */
    private boolean isParted(State state, List<Step> steps, List<Integer> row,
            List<Integer> on, int step, int place, boolean isBegun) {
        if (step == steps.size()) {
            return place == row.size();
        }
        Step asked = steps.get(step);
        for (int repeats = 0; repeats <= asked.most && place + repeats <= row.size(); repeats++) {
            int end = place + repeats;
            if (repeats > 0 && !takes(asked, row.get(end - 1), on.get(end - 1))) {
                return false;
            }
            if (isBegun && end == row.size()) {
                return true;
            }
            if (repeats >= asked.least && isAsAsked(state, asked, on.get(end))
                    && isParted(state, steps, row, on, step + 1, end, isBegun)) {
                return true;
            }
        }
        return false;
    }

    private boolean isMatch(State state, List<Step> steps, int from, List<Integer> row) {
        return isParted(state, steps, row, nodesOn(from, row), 0, 0, false);
    }

    private boolean isBegun(State state, List<Step> steps, char way, int from, List<Integer> row) {
        if (new HashSet<>(row).size() < row.size()) {
            return false;
        }
        List<Integer> on = nodesOn(from, row);
        if (way == 'n' && new HashSet<>(on).size() < on.size()) {
            return false;
        }
        return isParted(state, steps, row, on, 0, 0, true);
    }

    /** The first row that begins with this one, and goes on with an edge above that told. */
    private List<Integer> longer(State state, List<Step> steps, char way, int from,
            List<Integer> row, int above) {
        List<Integer> on = nodesOn(from, row);
        int end = on.get(on.size() - 1);
        for (int e : state.edges.tailSet(above, false)) {
            if (made.get(e).from == end || made.get(e).to == end) {
                List<Integer> next = new ArrayList<>(row);
                next.add(e);
                if (isBegun(state, steps, way, from, next)) {
                    return next;
                }
            }
        }
        return null;
    }

    private List<Integer> rowBehind(State state, List<Step> steps, char way, int from,
            List<Integer> row) {
        List<Integer> next = longer(state, steps, way, from, row, -1);
        for (int size = row.size() - 1; size >= 0 && next == null; size--) {
            next = longer(state, steps, way, from, row.subList(0, size), row.get(size));
        }
        return next;
    }

    /** All matches in order, or null if the question is refused. */
    private List<List<Integer>> all(State state, List<Step> steps, char way, int from) {
        List<List<Integer>> matches = new ArrayList<>();
        List<Integer> row = new ArrayList<>();
        int count = 0;
        while (row != null) {
            count++;
            if (count > MOST_ROWS) {
                return null;
            }
            if (isMatch(state, steps, from, row)) {
                matches.add(row);
            }
            row = rowBehind(state, steps, way, from, row);
        }
        return matches;
    }

    private Integer answer(State state, List<Step> steps, char way, int from, int to) {
        if (!state.values.containsKey(from) || to != -1 && !state.values.containsKey(to)) {
            return 0;
        }
        List<List<Integer>> matches = all(state, steps, way, from);
        return matches == null ? null : comingTo(matches, from, to).size();
    }

    private List<List<Integer>> comingTo(List<List<Integer>> matches, int from, int to) {
        List<List<Integer>> coming = new ArrayList<>();
        for (List<Integer> row : matches) {
            List<Integer> on = nodesOn(from, row);
            if (to == -1 || on.get(on.size() - 1) == to) {
                coming.add(row);
            }
        }
        return coming;
    }

    private List<List<Integer>> ask(char way, int from, int to) {
        State state = seen();
        thereOnly(state.values.containsKey(from));
        thereOnly(to == -1 || state.values.containsKey(to));
        illegalUnless(way == 'e' || way == 'n');
        List<List<Integer>> matches = all(state, pattern, way, from);
        if (matches == null) {
            throw new UnsupportedOperationException();
        }
        return comingTo(matches, from, to);
    }

    int matches(char way, int from, int to) {
        int count = ask(way, from, to).size();
        if (used >= 0 && usedView < 0) {
            Transaction own = transactions.get(used);
            Integer answer = answer(own.begun, pattern, way, from, to);
            own.questions.add(new Question(pattern, way, from, to, answer));
        }
        return count;
    }

    int shortest(char way, int from, int to) {
        return ask(way, from, to).stream().mapToInt(List::size).min()
                .orElseThrow(NoSuchElementException::new);
    }

    int allShortest(char way, int from, int to) {
        List<List<Integer>> coming = ask(way, from, to);
        int least = coming.stream().mapToInt(List::size).min().orElse(0);
        return (int) coming.stream().filter(row -> row.size() == least).count();
    }

    int matchAt(char way, int from, int index, int place) {
        List<List<Integer>> matches = ask(way, from, -1);
        if (index < 0 || index >= matches.size()
                || place < 0 || place >= matches.get(index).size()) {
            throw new NoSuchElementException();
        }
        return matches.get(index).get(place);
    }

    int open(char way, int from) {
        State state = seen();
        thereOnly(state.values.containsKey(from));
        illegalUnless(way == 'e' || way == 'n');
        stateOnly(walks.size() < 4);
        Walk walk = new Walk();
        walk.state = state;
        walk.steps = pattern;
        walk.way = way;
        walk.from = from;
        walks.add(walk);
        return walks.size() - 1;
    }

    private Walk walk(int number) {
        thereOnly(number >= 0 && number < walks.size());
        return walks.get(number);
    }

    char goOn(int number, int steps) {
        Walk walk = walk(number);
        illegalUnless(steps >= 1 && steps <= 200);
        if (!walk.isEmptyTold) {
            walk.isEmptyTold = true;
            if (isMatch(walk.state, walk.steps, walk.from, walk.row)) {
                walk.found++;
                walk.last = walk.row;
                return 'f';
            }
        }
        for (int i = 0; i < steps; i++) {
            List<Integer> next =
                    rowBehind(walk.state, walk.steps, walk.way, walk.from, walk.row);
            if (next == null) {
                return 'e';
            }
            walk.row = next;
            walk.made++;
            if (isMatch(walk.state, walk.steps, walk.from, next)) {
                walk.found++;
                walk.last = next;
                return 'f';
            }
        }
        boolean isLeft =
                rowBehind(walk.state, walk.steps, walk.way, walk.from, walk.row) != null;
        return isLeft ? 'p' : 'e';
    }

    int found(int number) {
        return walk(number).found;
    }

    int foundAt(int number, int place) {
        Walk walk = walk(number);
        if (walk.last == null || place < 0 || place >= walk.last.size()) {
            throw new NoSuchElementException();
        }
        return walk.last.get(place);
    }

    int steps(int number) {
        return walk(number).made;
    }

    // ---- closures and rules

    private Set<List<Integer>> pairsOf(State state, int kind) {
        Set<List<Integer>> pairs = new HashSet<>();
        for (int first : state.values.keySet()) {
            TreeSet<Integer> reached = new TreeSet<>();
            List<Integer> open = new ArrayList<>(List.of(first));
            while (!open.isEmpty()) {
                int here = open.remove(open.size() - 1);
                for (int e : state.edges) {
                    Edge known = made.get(e);
                    if (known.kind == kind && known.from == here && reached.add(known.to)) {
                        open.add(known.to);
                    }
                }
            }
            reached.forEach(second -> pairs.add(List.of(first, second)));
        }
        return pairs;
    }

    int closure(int kind) {
        illegalUnless(kind >= 0 && kind <= 3);
        stateOnly(closures.size() < 4);
        Closure closure = new Closure();
        closure.kind = kind;
        closure.pairs = pairsOf(shared, kind);
        closures.add(closure);
        return closures.size() - 1;
    }

    private Closure kept(int number) {
        thereOnly(number >= 0 && number < closures.size());
        return closures.get(number);
    }

    boolean reaches(int number, int from, int to) {
        Closure closure = kept(number);
        thereOnly(shared.values.containsKey(from) && shared.values.containsKey(to));
        return closure.pairs.contains(List.of(from, to));
    }

    int pairs(int number) {
        return kept(number).pairs.size();
    }

    int changes(int number, boolean isCome) {
        return isCome ? kept(number).came : kept(number).went;
    }

    private static int less(Set<List<Integer>> some, Set<List<Integer>> others) {
        return (int) some.stream().filter(one -> !others.contains(one)).count();
    }

    private void behindChange() {
        for (Closure closure : closures) {
            Set<List<Integer>> pairs = pairsOf(shared, closure.kind);
            closure.came += less(pairs, closure.pairs);
            closure.went += less(closure.pairs, pairs);
            closure.pairs = pairs;
        }
        for (Watch watch : watches) {
            Set<List<Integer>> matches = watched(watch);
            watch.found += less(matches, watch.matches);
            watch.lost += less(watch.matches, matches);
            watch.matches = matches;
        }
    }

    private boolean keeps(State state, Rule rule) {
        if (rule.letter == 'a') {
            return pairsOf(state, rule.edgeKind).stream()
                    .noneMatch(pair -> pair.get(0).equals(pair.get(1)));
        }
        List<Integer> values = new ArrayList<>();
        for (int node : state.values.keySet()) {
            if (nodeKinds.get(node) != rule.nodeKind) {
                continue;
            }
            values.add(state.values.get(node));
            long degree = state.edges.stream().map(made::get)
                    .filter(e -> e.kind == rule.edgeKind)
                    .filter(e -> (rule.letter == 'o' ? e.from : e.to) == node).count();
            if (rule.letter != 'u' && (degree < rule.least || degree > rule.most)) {
                return false;
            }
        }
        return rule.letter != 'u' || new HashSet<>(values).size() == values.size();
    }

    private boolean keepsAll(State state) {
        return rules.stream().allMatch(rule -> keeps(state, rule));
    }

    private int tell(Rule rule) {
        if (!keeps(shared, rule)) {
            throw new UnsupportedOperationException();
        }
        stateOnly(rules.size() < 6);
        rules.add(rule);
        return rules.size() - 1;
    }

    int degrees(boolean isOut, int nodeKind, int edgeKind, int least, int most) {
        illegalUnless(nodeKind >= 0 && nodeKind <= 3 && edgeKind >= 0 && edgeKind <= 3
                && least >= 0 && least <= most && most <= 9);
        return tell(new Rule(isOut ? 'o' : 'i', nodeKind, edgeKind, least, most));
    }

    int rule(char letter, int kind) {
        illegalUnless((letter == 'u' || letter == 'a') && kind >= 0 && kind <= 3);
        return tell(new Rule(letter, kind, kind, 0, 0));
    }

    // ---- transactions and watches

    int begin() {
        stateOnly(transactions.stream().filter(t -> t.isOpen).count() < 3);
        stateOnly(transactions.size() < 20);
        Transaction begun = new Transaction();
        begun.begun = shared.copy();
        begun.now = shared.copy();
        begun.eventsAhead = events.size();
        transactions.add(begun);
        return transactions.size() - 1;
    }

    private Transaction openOne(int number) {
        thereOnly(number >= 0 && number < transactions.size());
        thereOnly(transactions.get(number).isOpen);
        return transactions.get(number);
    }

    int use(int number) {
        if (number != -1) {
            openOne(number);
        }
        int before = used;
        used = number;
        return before;
    }

    private boolean isCross(Event own, Event other) {
        if (own.isNode == other.isNode) {
            return own.number == other.number;
        }
        Event ofNode = own.isNode ? own : other;
        Event ofEdge = own.isNode ? other : own;
        Edge edge = made.get(ofEdge.number);
        return ofNode.what == 'd' && ofEdge.what == 'm'
                && (edge.from == ofNode.number || edge.to == ofNode.number);
    }

    char commit(int number) {
        Transaction own = openOne(number);
        abort(number);
        for (Event other : events.subList(own.eventsAhead, events.size())) {
            if (own.events.stream().anyMatch(event -> isCross(event, other))) {
                return 'w';
            }
        }
        for (Question question : own.questions) {
            Integer answer = answer(shared, question.steps, question.way, question.from,
                    question.to);
            if (answer == null ? question.answer != null : !answer.equals(question.answer)) {
                return 'p';
            }
        }
        State state = shared.copy();
        List<Event> done = new ArrayList<>();
        for (Doing doing : own.doings) {
            doing.on(state, done);
        }
        if (!keepsAll(state)) {
            return 's';
        }
        shared = state;
        events.addAll(done);
        behindChange();
        return 'c';
    }

    int abort(int number) {
        Transaction own = openOne(number);
        own.isOpen = false;
        if (used == number) {
            used = -1;
        }
        return own.doings.size();
    }

    private Set<List<Integer>> watched(Watch watch) {
        if (!shared.values.containsKey(watch.from)) {
            return new HashSet<>();
        }
        List<List<Integer>> matches = all(shared, watch.steps, watch.way, watch.from);
        return matches == null ? new HashSet<>() : new HashSet<>(matches);
    }

    int watch(char way, int from) {
        thereOnly(shared.values.containsKey(from));
        illegalUnless(way == 'e' || way == 'n');
        if (all(shared, pattern, way, from) == null) {
            throw new UnsupportedOperationException();
        }
        stateOnly(watches.size() < 4);
        Watch watch = new Watch();
        watch.steps = pattern;
        watch.way = way;
        watch.from = from;
        watch.matches = watched(watch);
        watches.add(watch);
        return watches.size() - 1;
    }

    int news(int number, boolean isFound) {
        thereOnly(number >= 0 && number < watches.size());
        return isFound ? watches.get(number).found : watches.get(number).lost;
    }

    // ---- costs, flows, figures

    private State seenWith(int from, int to) {
        State state = seen();
        thereOnly(state.values.containsKey(from) && state.values.containsKey(to));
        return state;
    }

    int cost(int from, int to) {
        State state = seenWith(from, to);
        TreeMap<Integer, Integer> costs = new TreeMap<>();
        costs.put(from, 0);
        for (int round = 0; round < 20; round++) {
            for (int e : state.edges) {
                Edge known = made.get(e);
                if (costs.containsKey(known.from)) {
                    costs.merge(known.to, costs.get(known.from) + known.weight, Math::min);
                }
            }
        }
        if (!costs.containsKey(to)) {
            throw new NoSuchElementException();
        }
        return costs.get(to);
    }

    /** The greatest flow is the least cut. */
    int flow(int from, int to) {
        State state = seenWith(from, to);
        illegalUnless(from != to);
        int least = Integer.MAX_VALUE;
        for (int side = 0; side < 1 << 14; side++) {
            if ((side >> from & 1) == 1 && (side >> to & 1) == 0) {
                int cut = 0;
                for (int e : state.edges) {
                    Edge known = made.get(e);
                    if ((side >> known.from & 1) == 1 && (side >> known.to & 1) == 0) {
                        cut += known.weight;
                    }
                }
                least = Math.min(least, cut);
            }
        }
        return least;
    }

    float density() {
        State state = seen();
        if (state.values.isEmpty()) {
            throw new ArithmeticException();
        }
        Set<List<Integer>> joined = new HashSet<>();
        state.edges.forEach(e -> joined.add(List.of(made.get(e).from, made.get(e).to)));
        int size = state.values.size();
        return (float) joined.size() / (float) (size * size);
    }

    double meanWeight() {
        State state = seen();
        if (state.edges.isEmpty()) {
            throw new ArithmeticException();
        }
        int sum = state.edges.stream().mapToInt(e -> made.get(e).weight).sum();
        return (double) sum / (double) state.edges.size();
    }

    long checksum() {
        long sum = 7;
        for (int node : shared.values.keySet()) {
            sum = 31 * sum + node;
            sum = 31 * sum + shared.values.get(node);
        }
        for (int e : shared.edges) {
            sum = 31 * sum + e;
        }
        for (Closure closure : closures) {
            sum = 31 * sum + closure.pairs.size();
        }
        return sum;
    }

    boolean isSound() {
        return true;
    }

    // ---- what a random run looks at, to ask for things that are there

    List<Integer> nodesThere() {
        return new ArrayList<>(current().values.keySet());
    }

    List<Integer> edgesThere() {
        return new ArrayList<>(current().edges);
    }

    List<Integer> transactionsOpen() {
        List<Integer> open = new ArrayList<>();
        for (int i = 0; i < transactions.size(); i++) {
            if (transactions.get(i).isOpen) {
                open.add(i);
            }
        }
        return open;
    }

    int walksKept() {
        return walks.size();
    }

    int closuresKept() {
        return closures.size();
    }

    int watchesKept() {
        return watches.size();
    }
}
