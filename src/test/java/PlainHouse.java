import java.math.BigInteger;
import java.util.ArrayList;
import java.util.Comparator;
import java.util.HashMap;
import java.util.HashSet;
import java.util.LinkedHashMap;
import java.util.LinkedHashSet;
import java.util.List;
import java.util.Map;
import java.util.Set;
import java.util.TreeSet;
import java.util.function.Consumer;

/**
 * What a GraphHouse must answer, written as plainly as the document tells it, without a thought of speed or room: ways
 * are found by trying, and the LOG is kept and done again when the graph is RECOVERED. It answers as House does.
 */
final class PlainHouse {
    /** What stands in the LOG behind the CHANGES of a TRANSACTION. */
    private static final Consumer<PlainGraph> END = graph -> { };

    private PlainGraph graph = new PlainGraph();
    private PlainGraph checkpoint = new PlainGraph();
    private final List<Consumer<PlainGraph>> log = new ArrayList<>();
    /** CHANGES of the statement that is done, or of the TRANSACTION under way. */
    private List<Consumer<PlainGraph>> changes = new ArrayList<>();
    private PlainGraph atBegin;
    private boolean underWay;
    private boolean off;
    private int writes;
    private int writesToCut;
    private int work;
    private int[] faults = new int[4];
    private List<String> columns = List.of();
    private List<List<Object>> returned = List.of();

    /** As House.ask(). */
    String ask(String statement) {
        faults = new int[4];
        columns = List.of();
        returned = List.of();
        if (off) {
            return "off";
        }
        graph.gone.clear();
        List<PlainReader.Clause> clauses;
        try {
            clauses = new PlainReader(statement, graph).read();
        } catch (Refused refused) {
            faults[0] = refused.what;
            faults[1] = refused.place;
            return "fault " + faults[0] + " at " + faults[1];
        }
        return perform(clauses);
    }

    private String perform(List<PlainReader.Clause> clauses) {
        PlainGraph graphBefore = graph.copy();
        List<Consumer<PlainGraph>> changesBefore = new ArrayList<>(changes);
        List<List<Object>> result = List.of();
        int number = 0;
        try {
            List<Map<String, Object>> rows = List.of(new HashMap<>());
            for (PlainReader.Clause clause : clauses) {
                result = clause.kind.equals("WITH") || clause.kind.equals("RETURN") ? gather(clause, rows) : List.of();
                rows = doClause(clause, rows, result);
                number++;
            }
            if (!underWay && !hasRoom()) {
                throw Refused.error(9);
            }
        } catch (Refused refused) {
            graph = graphBefore;
            changes = changesBefore;
            faults[2] = refused.what;
            faults[3] = number;
            return "error " + refused.what + " in " + number;
        }
        if (!underWay && !writeChanges()) {
            return "off";
        }
        columns = clauses.get(number - 1).columns;
        returned = result;
        return result.isEmpty() ? "done" : shown(result);
    }

    private static String shown(List<List<Object>> rows) {
        List<String> lines = new ArrayList<>();
        for (List<Object> row : rows) {
            List<String> cells = new ArrayList<>();
            for (Object value : row) {
                cells.add(value instanceof String ? "'" + value + "'" : "" + value);
            }
            lines.add(String.join(",", cells));
        }
        return String.join("|", lines);
    }

    private List<Map<String, Object>> doClause(PlainReader.Clause clause, List<Map<String, Object>> rows,
            List<List<Object>> result) {
        switch (clause.kind) {
            case "MATCH":
                return match(clause, rows);
            case "CREATE":
                return create(clause, rows);
            case "DELETE":
                delete(clause, rows);
                return rows;
            case "SET":
            case "REMOVE":
                change(clause, rows);
                return rows;
            default:
                List<Map<String, Object>> known = new ArrayList<>();
                for (List<Object> row : result) {
                    known.add(named(clause, row));
                }
                known.removeIf(row -> clause.where != null && !Boolean.TRUE.equals(clause.where.look(row)));
                return known;
        }
    }

    private void countWork() {
        if (work == 20000) {
            throw Refused.error(10);
        }
        work++;
    }

    private void doChange(Consumer<PlainGraph> change) {
        if (changes.size() == 249) {
            throw Refused.error(9);
        }
        changes.add(change);
        change.accept(graph);
    }

    /* MATCH. The ways of one ROW are tried with what is bound so far: new NAMES, and RELATIONSHIPS that are used. */

    private List<Map<String, Object>> match(PlainReader.Clause clause, List<Map<String, Object>> rows) {
        List<List<Map<String, Object>>> waysOfRows = new ArrayList<>();
        int[] made = {0};
        for (Map<String, Object> row : rows) {
            List<Map<String, Object>> ways = new ArrayList<>();
            new Ways(clause, row, made, ways).find(0, 0, null, new HashMap<>(row), new HashSet<>());
            waysOfRows.add(ways);
        }
        List<Map<String, Object>> found = new ArrayList<>();
        for (int i = 0; i < rows.size(); i++) {
            List<Map<String, Object>> ways = waysOfRows.get(i);
            ways.removeIf(way -> clause.where != null && !Boolean.TRUE.equals(clause.where.look(way)));
            if (ways.isEmpty() && clause.flag) {
                Map<String, Object> unmatched = new HashMap<>(rows.get(i));
                clause.newNames.forEach(name -> unmatched.put(name, null));
                ways.add(unmatched);
            }
            found.addAll(ways);
        }
        if (found.size() > 200) {
            throw Refused.error(1);
        }
        return found;
    }

    private final class Ways {
        private final PlainReader.Clause clause;
        private final Map<String, Object> row;
        private final int[] made;
        private final List<Map<String, Object>> found;
        private final Map<PlainReader.Property, Object> asked = new HashMap<>();

        Ways(PlainReader.Clause clause, Map<String, Object> row, int[] made, List<Map<String, Object>> found) {
            this.clause = clause;
            this.row = row;
            this.made = made;
            this.found = found;
            for (PlainReader.Path path : clause.paths) {
                for (PlainReader.Part part : path.parts()) {
                    if (part.isAhead()) {
                        graph.refuseGone(row.get(part.name()));
                    }
                    part.properties().forEach(property -> asked.put(property, property.x().look(row)));
                }
            }
        }

        private boolean fits(PlainReader.Part part, PlainGraph.Thing thing, Map<String, Object> bound) {
            boolean isBound = thing.kind() == 'N' && part.name() != null && bound.containsKey(part.name());
            if (isBound && !thing.equals(bound.get(part.name()))) {
                return false;
            }
            for (PlainReader.Property property : part.properties()) {
                Object value = graph.of(thing).properties.get(property.key());
                if (value == null || !value.equals(asked.get(property))) {
                    return false;
                }
            }
            Set<String> sorts = graph.of(thing).sorts;
            return thing.kind() == 'N' ? sorts.containsAll(part.sorts())
                    : part.sorts().isEmpty() || part.sorts().containsAll(sorts);
        }

        /** All ways from this part on (an ENDS, or a LINK behind the node), PATTERN by PATTERN. */
        void find(int p, int i, PlainGraph.Thing node, Map<String, Object> bound, Set<PlainGraph.Thing> used) {
            if (p == clause.paths.size()) {
                if (made[0] == 200) {
                    throw Refused.error(1);
                }
                countWork();
                made[0]++;
                found.add(bound);
                return;
            }
            PlainReader.Path path = clause.paths.get(p);
            if (i == path.parts().size()) {
                find(p + 1, 0, null, bound, used);
            } else if (i == 0) {
                for (PlainGraph.Thing first : graph.all('N')) {
                    come(p, 0, first, bound, used);
                }
            } else if (path.shortest() != null) {
                findShortest(p, node, bound, used);
            } else {
                PlainReader.Part link = path.parts().get(i);
                for (long length = link.least(); length <= link.most(); length++) {
                    findChains(p, i, length, node, bound, used);
                }
            }
        }

        private void come(int p, int i, PlainGraph.Thing node, Map<String, Object> bound, Set<PlainGraph.Thing> used) {
            PlainReader.Part ends = clause.paths.get(p).parts().get(i);
            if (fits(ends, node, bound)) {
                find(p, i + 1, node, with(bound, ends.name(), node), used);
            }
        }

        private List<PlainGraph.Thing> next(PlainReader.Part link, PlainGraph.Thing r, PlainGraph.Thing node) {
            Set<PlainGraph.Thing> next = new LinkedHashSet<>();
            if (!link.arrow().equals("<") && graph.of(r).start.equals(node)) {
                next.add(graph.of(r).end);
            }
            if (!link.arrow().equals(">") && graph.of(r).end.equals(node)) {
                next.add(graph.of(r).start);
            }
            return new ArrayList<>(next);
        }

        private void findChains(int p, int i, long length, PlainGraph.Thing node, Map<String, Object> bound,
                Set<PlainGraph.Thing> used) {
            if (length == 0) {
                come(p, i + 1, node, bound, used);
                return;
            }
            PlainReader.Part link = clause.paths.get(p).parts().get(i);
            for (PlainGraph.Thing r : graph.all('R')) {
                if (!used.contains(r) && fits(link, r, bound)) {
                    Set<PlainGraph.Thing> more = new HashSet<>(used);
                    more.add(r);
                    for (PlainGraph.Thing next : next(link, r, node)) {
                        findChains(p, i, length - 1, next, with(bound, link.name(), r), more);
                    }
                }
            }
        }

        private void findShortest(int p, PlainGraph.Thing from, Map<String, Object> bound, Set<PlainGraph.Thing> used) {
            PlainReader.Path path = clause.paths.get(p);
            PlainReader.Part link = path.parts().get(1);
            Map<PlainGraph.Thing, Long> far = distances(link, from, bound);
            for (PlainGraph.Thing node : graph.all('N')) {
                Long length = far.get(node);
                if (length != null && length > 0 && link.least() <= length && length <= link.most()) {
                    come(p, 2, node, with(bound, path.shortest(), length), used);
                }
            }
        }

        private Map<PlainGraph.Thing, Long> distances(PlainReader.Part link, PlainGraph.Thing from,
                Map<String, Object> bound) {
            Map<PlainGraph.Thing, Long> far = new HashMap<>();
            List<PlainGraph.Thing> come = new ArrayList<>(List.of(from));
            far.put(from, 0L);
            for (int i = 0; i < come.size(); i++) {
                for (PlainGraph.Thing r : graph.all('R')) {
                    for (PlainGraph.Thing next : next(link, r, come.get(i))) {
                        if (fits(link, r, bound) && !far.containsKey(next)) {
                            far.put(next, far.get(come.get(i)) + 1);
                            come.add(next);
                        }
                    }
                }
            }
            return far;
        }
    }

    private static Map<String, Object> with(Map<String, Object> row, String name, Object value) {
        Map<String, Object> more = new HashMap<>(row);
        if (name != null) {
            more.put(name, value);
        }
        return more;
    }

    /* Clauses that change. */

    private List<Map<String, Object>> create(PlainReader.Clause clause, List<Map<String, Object>> rows) {
        List<Map<String, Object>> made = new ArrayList<>();
        for (Map<String, Object> row : rows) {
            countWork();
            Map<String, Object> more = new HashMap<>(row);
            for (PlainReader.Path path : clause.paths) {
                PlainGraph.Thing last = null;
                for (int i = 0; i < path.parts().size(); i += 2) {
                    PlainGraph.Thing node = createEnds(path.parts().get(i), row, more);
                    if (i > 0) {
                        createLink(path.parts().get(i - 1), last, node, row, more);
                    }
                    last = node;
                }
            }
            made.add(more);
        }
        return made;
    }

    private PlainGraph.Thing createEnds(PlainReader.Part ends, Map<String, Object> row, Map<String, Object> more) {
        if (!ends.isNew()) {
            if (more.get(ends.name()) instanceof PlainGraph.Thing node && node.kind() == 'N') {
                graph.refuseGone(node);
                return node;
            }
            throw Refused.error(2);
        }
        PlainGraph.Thing node = least('N');
        doChange(g -> g.make(node));
        ends.sorts().forEach(label -> putLabel(node, label));
        putProperties(ends, node, row);
        more.put(ends.name(), node);
        return node;
    }

    private void createLink(PlainReader.Part link, PlainGraph.Thing left, PlainGraph.Thing right,
            Map<String, Object> row, Map<String, Object> more) {
        PlainGraph.Thing thing = least('R');
        boolean along = link.arrow().equals(">");
        doChange(g -> {
            PlainGraph.Content content = g.make(thing);
            content.start = along ? left : right;
            content.end = along ? right : left;
            content.sorts.addAll(link.sorts());
        });
        putProperties(link, thing, row);
        more.put(link.name(), thing);
    }

    private PlainGraph.Thing least(char kind) {
        for (int number = 0; number < PlainGraph.limit(kind); number++) {
            PlainGraph.Thing thing = new PlainGraph.Thing(kind, number);
            if (!graph.has(thing) && !graph.gone.contains(thing)) {
                return thing;
            }
        }
        throw Refused.error(6);
    }

    private void putProperties(PlainReader.Part part, PlainGraph.Thing thing, Map<String, Object> row) {
        for (PlainReader.Property property : part.properties()) {
            Object value = property.x().look(row);
            if (value != null) {
                putProperty(thing, property.key(), value);
            }
        }
    }

    private void putLabel(PlainGraph.Thing node, String label) {
        Set<String> labels = graph.of(node).sorts;
        if (labels.contains(label)) {
            return;
        }
        if (labels.size() == 4) {
            throw Refused.error(6);
        }
        doChange(g -> g.of(node).sorts.add(label));
    }

    private void putProperty(PlainGraph.Thing thing, String key, Object value) {
        Map<String, Object> properties = graph.of(thing).properties;
        if (value instanceof PlainGraph.Thing) {
            throw Refused.error(2);
        }
        if (value.equals(properties.get(key))) {
            return;
        }
        if (properties.size() == 6 && !properties.containsKey(key)) {
            throw Refused.error(6);
        }
        doChange(g -> g.of(thing).properties.put(key, value));
    }

    private void change(PlainReader.Clause clause, List<Map<String, Object>> rows) {
        for (Map<String, Object> row : rows) {
            countWork();
            for (PlainReader.Change change : clause.changes) {
                Object value = row.get(change.name());
                if (value != null) {
                    changeThing(clause.kind.equals("SET"), change, value, row);
                }
            }
        }
    }

    private void changeThing(boolean set, PlainReader.Change change, Object value, Map<String, Object> row) {
        if (!(value instanceof PlainGraph.Thing thing) || change.isLabel() && thing.kind() != 'N') {
            throw Refused.error(2);
        }
        graph.refuseGone(thing);
        String word = change.word();
        Object put = change.isLabel() ? null : change.x().look(row);
        if (change.isLabel() && set) {
            putLabel(thing, word);
        } else if (change.isLabel() && graph.of(thing).sorts.contains(word)) {
            doChange(g -> g.of(thing).sorts.remove(word));
        } else if (!change.isLabel() && put != null) {
            putProperty(thing, word, put);
        } else if (!change.isLabel() && graph.of(thing).properties.containsKey(word)) {
            doChange(g -> g.of(thing).properties.remove(word));
        }
    }

    private void delete(PlainReader.Clause clause, List<Map<String, Object>> rows) {
        Comparator<PlainGraph.Thing> relationshipsFirst = Comparator.comparing(thing -> -thing.kind());
        Set<PlainGraph.Thing> doomed = new TreeSet<>(relationshipsFirst.thenComparing(PlainGraph.Thing::number));
        for (Map<String, Object> row : rows) {
            countWork();
            for (String name : clause.deleted) {
                if (row.get(name) instanceof PlainGraph.Thing thing) {
                    doomed.add(thing);
                } else if (row.get(name) != null) {
                    throw Refused.error(2);
                }
            }
        }
        for (PlainGraph.Thing thing : doomed) {
            if (graph.has(thing) && thing.kind() == 'N') {
                for (PlainGraph.Thing r : graph.joined(thing)) {
                    if (!clause.flag) {
                        throw Refused.error(7);
                    }
                    takeAway(r);
                }
            }
            takeAway(thing);
        }
    }

    private void takeAway(PlainGraph.Thing thing) {
        if (graph.has(thing)) {
            doChange(g -> g.remove(thing));
            graph.gone.add(thing);
        }
    }

    /* WITH and RETURN. */

    private static Map<String, Object> named(PlainReader.Clause clause, List<Object> row) {
        Map<String, Object> named = new HashMap<>();
        for (int i = 0; i < row.size(); i++) {
            named.put(clause.columns.get(i), row.get(i));
        }
        return named;
    }

    private List<List<Object>> gather(PlainReader.Clause clause, List<Map<String, Object>> rows) {
        boolean grouped = clause.items.stream().anyMatch(item -> !item.aggregate().isEmpty());
        boolean together = clause.items.stream().noneMatch(item -> item.aggregate().isEmpty());
        List<List<Object>> result = new ArrayList<>();
        /* By the other ITEMS' VALUES: what each AGGREGATE took in. */
        Map<List<Object>, List<List<Object>>> groups = new LinkedHashMap<>();
        if (together) {
            groups.put(List.of(), emptyGroup(clause));
        }
        for (Map<String, Object> row : rows) {
            countWork();
            List<Object> values = new ArrayList<>();
            clause.items.forEach(item -> values.add(item.x().look(row)));
            if (grouped) {
                takeIn(clause, values, groups);
            } else {
                result.add(values);
            }
        }
        groups.forEach((key, taken) -> result.add(finish(clause, key, taken)));
        List<List<Object>> left = clause.flag ? new ArrayList<>(new LinkedHashSet<>(result)) : result;
        sort(clause, left);
        int from = (int) Math.min(clause.skip, left.size());
        return left.subList(from, from + (int) Math.min(clause.limit, left.size() - from));
    }

    private static List<List<Object>> emptyGroup(PlainReader.Clause clause) {
        List<List<Object>> group = new ArrayList<>();
        clause.items.forEach(item -> group.add(new ArrayList<>()));
        return group;
    }

    private static void takeIn(PlainReader.Clause clause, List<Object> values,
            Map<List<Object>, List<List<Object>>> groups) {
        List<Object> key = new ArrayList<>();
        for (int i = 0; i < values.size(); i++) {
            if (clause.items.get(i).aggregate().isEmpty()) {
                key.add(values.get(i));
            }
        }
        List<List<Object>> group = groups.computeIfAbsent(key, k -> emptyGroup(clause));
        for (int i = 0; i < values.size(); i++) {
            PlainReader.Item item = clause.items.get(i);
            Object value = item.aggregate().equals("*") ? Boolean.TRUE : values.get(i);
            if (value != null && !(item.distinct() && group.get(i).contains(value))) {
                group.get(i).add(value);
                if (item.aggregate().equals("SUM")) {
                    sum(group.get(i));
                }
            }
        }
    }

    private static Long sum(List<Object> values) {
        BigInteger sum = BigInteger.ZERO;
        for (Object value : values) {
            if (!(value instanceof Long number)) {
                throw Refused.error(2);
            }
            sum = sum.add(BigInteger.valueOf(number));
        }
        return PlainSigns.within(sum);
    }

    private static List<Object> finish(PlainReader.Clause clause, List<Object> key, List<List<Object>> group) {
        List<Object> row = new ArrayList<>();
        int others = 0;
        for (int i = 0; i < group.size(); i++) {
            List<Object> taken = group.get(i);
            switch (clause.items.get(i).aggregate()) {
                case "":
                    row.add(key.get(others));
                    others++;
                    break;
                case "SUM":
                    row.add(sum(taken));
                    break;
                case "MIN":
                    row.add(taken.stream().min(PlainSigns.ORDER).orElse(null));
                    break;
                case "MAX":
                    row.add(taken.stream().max(PlainSigns.ORDER).orElse(null));
                    break;
                default:
                    row.add((long) taken.size());
                    break;
            }
        }
        return row;
    }

    private static void sort(PlainReader.Clause clause, List<List<Object>> rows) {
        Map<List<Object>, List<Object>> keys = new HashMap<>();
        for (List<Object> row : rows) {
            List<Object> key = new ArrayList<>();
            clause.orders.forEach(order -> key.add(order.x().look(named(clause, row))));
            keys.put(row, key);
        }
        for (int i = clause.orders.size() - 1; i >= 0; i--) {
            int k = i;
            Comparator<Object> order = clause.orders.get(i).descending() ? PlainSigns.ORDER.reversed() : PlainSigns.ORDER;
            rows.sort((row, other) -> order.compare(keys.get(row).get(k), keys.get(other).get(k)));
        }
    }

    /* THE STORE. */

    private boolean hasRoom() {
        return changes.isEmpty() || log.size() + changes.size() + 1 <= 250;
    }

    private boolean write() {
        writesToCut--;
        if (writesToCut == 0) {
            off = true;
            underWay = false;
            changes = new ArrayList<>();
            return false;
        }
        writes++;
        return true;
    }

    /** Writes the CHANGES and their END to the LOG: whether the power did not fail. */
    private boolean writeChanges() {
        List<Consumer<PlainGraph>> due = changes;
        changes = new ArrayList<>();
        if (!due.isEmpty()) {
            due.add(END);
        }
        for (Consumer<PlainGraph> change : due) {
            if (!write()) {
                return false;
            }
            log.add(change);
        }
        return true;
    }

    boolean begin() {
        if (underWay || off) {
            return false;
        }
        underWay = true;
        atBegin = graph.copy();
        return true;
    }

    int commit() {
        if (off) {
            return House.OFF;
        }
        if (!underWay) {
            return -1;
        }
        if (!hasRoom()) {
            return -2;
        }
        int due = changes.isEmpty() ? 0 : changes.size() + 1;
        underWay = false;
        return writeChanges() ? due : House.OFF;
    }

    boolean rollback() {
        if (!underWay) {
            return false;
        }
        underWay = false;
        graph = atBegin;
        changes = new ArrayList<>();
        return true;
    }

    int checkpoint() {
        if (off) {
            return House.OFF;
        }
        if (underWay) {
            return -1;
        }
        int due = graph.all('N').size() + graph.all('R').size() + 1;
        for (int i = 0; i < due; i++) {
            if (!write()) {
                return House.OFF;
            }
        }
        checkpoint = graph.copy();
        log.clear();
        return due;
    }

    boolean cut(int n) {
        if (off || n < 0 || n > 2000) {
            return false;
        }
        writesToCut = n;
        return true;
    }

    int recover() {
        while (!log.isEmpty() && log.get(log.size() - 1) != END) {
            log.remove(log.size() - 1);
        }
        graph = checkpoint.copy();
        log.forEach(change -> change.accept(graph));
        changes = new ArrayList<>();
        off = false;
        underWay = false;
        writesToCut = 0;
        return (int) log.stream().filter(change -> change == END).count();
    }

    int state(int what) {
        switch (what) {
            case 0:
                return off ? 0 : graph.all('N').size();
            case 1:
                return off ? 0 : graph.all('R').size();
            case 2:
                return writes;
            case 3:
                return log.size();
            case 4:
                return off ? 1 : 0;
            case 5:
                return underWay ? 1 : 0;
            case 6:
                return work;
            case 7:
                return changes.size();
            default:
                return -1;
        }
    }

    int fault(int what) {
        return what < 0 || what > 3 ? -1 : faults[what];
    }

    int table(int what) {
        return what == 0 ? returned.size() : what == 1 ? columns.size() : -1;
    }

    /** As House.head(). */
    String head(int column) {
        return column >= columns.size() || columns.get(column) == null ? "" : columns.get(column);
    }

    /** As House.node(). */
    String node(int n) {
        PlainGraph.Thing node = new PlainGraph.Thing('N', n);
        if (off || !graph.has(node)) {
            return "-1 -1 -1 -1";
        }
        long starting = graph.all('R').stream().filter(r -> graph.of(r).start.equals(node)).count();
        long ending = graph.all('R').stream().filter(r -> graph.of(r).end.equals(node)).count();
        return graph.of(node).sorts.size() + " " + graph.of(node).properties.size() + " " + starting + " " + ending;
    }

    /** As House.relationship(). */
    String relationship(int r) {
        PlainGraph.Thing relationship = new PlainGraph.Thing('R', r);
        if (off || !graph.has(relationship)) {
            return "-1 -1 -1";
        }
        PlainGraph.Content content = graph.of(relationship);
        return content.start.number() + " " + content.end.number() + " " + content.properties.size();
    }
}
