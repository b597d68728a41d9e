import java.util.ArrayList;
import java.util.HashSet;
import java.util.List;
import java.util.Map;
import java.util.Set;
import java.util.regex.Matcher;
import java.util.regex.Pattern;

/** Reads a STATEMENT as the document tells it, row by row of its grammar; every X becomes what can be looked at. */
final class PlainReader {
    interface X {
        Object look(Map<String, Object> row);
    }

    record Property(String key, X x) {
    }

    /** ENDS, or a LINK with its arrow (">", "<", "<>" or none) and lengths. */
    record Part(String name, boolean isNew, boolean isAhead, List<String> sorts, List<Property> properties,
            String arrow, long least, long most) {
    }

    record Path(String shortest, List<Part> parts) {
    }

    record Change(String name, boolean isLabel, String word, X x) {
    }

    record Item(String aggregate, boolean distinct, X x) {
    }

    record Order(X x, boolean descending) {
    }

    static final class Clause {
        final String kind;
        /** OPTIONAL, DETACH or DISTINCT. */
        boolean flag;
        List<Path> paths;
        List<String> newNames;
        final List<String> deleted = new ArrayList<>();
        final List<Change> changes = new ArrayList<>();
        final List<Item> items = new ArrayList<>();
        final List<String> columns = new ArrayList<>();
        final List<Order> orders = new ArrayList<>();
        X where;
        long skip;
        long limit = Long.MAX_VALUE;

        Clause(String kind) {
            this.kind = kind;
        }
    }

    private record Token(String kind, String text, int place) {
    }

    private static final String[] KINDS = {"NAME", "SORT", "WORD", "NUMBER", "TEXT", "SIGN"};
    private static final Pattern[] TOKENS = {
        Pattern.compile("[a-z][a-z0-9]*"), Pattern.compile("[A-Z][a-z0-9]*"), Pattern.compile("[A-Z]{2,}"),
        Pattern.compile("[0-9]+"), Pattern.compile("'[^']*'"), Pattern.compile("\\.\\.|<>|<=|>=|[]\\[(){}:,.*+/%=<>|-]")};
    private static final int[] LONGEST = {8, 8, 400, 18, 26, 2};
    private static final List<String> CHANGING = List.of("CREATE", "DELETE", "SET", "REMOVE");
    private static final String[][] LEVELS = {{"OR"}, {"XOR"}, {"AND"}, {}, {}, {"+", "-"}, {"*", "/", "%"}};

    private final PlainGraph graph;
    private final List<Token> tokens = new ArrayList<>();
    private int at;
    private List<String> known = new ArrayList<>();
    /** What was KNOWN ahead of the CLAUSE, and what its LINKS and SHORTEST made. */
    private List<String> ahead;
    private Set<String> linked;
    private long size;
    private int lateFault;
    private int latePlace = Integer.MAX_VALUE;

    PlainReader(String tape, PlainGraph graph) {
        this.graph = graph;
        int place = 0;
        while (place < tape.length()) {
            place = tape.charAt(place) == ' ' ? place + 1 : addLongest(tape, place);
        }
        tokens.add(new Token("END", "", tape.length()));
    }

    private int addLongest(String tape, int place) {
        Token longest = new Token("", "", place);
        for (int i = 0; i < KINDS.length; i++) {
            Matcher matcher = TOKENS[i].matcher(tape).region(place, tape.length());
            if (matcher.lookingAt() && matcher.group().length() > longest.text.length()) {
                longest = new Token(matcher.group().length() > LONGEST[i] ? "" : KINDS[i], matcher.group(), place);
            }
        }
        tokens.add(longest);
        return longest.kind.isEmpty() ? tape.length() : place + longest.text.length();
    }

    private Token here() {
        return tokens.get(at);
    }

    private Refused refuse(int fault) {
        return new Refused(here().kind.isEmpty() ? 1 : fault, here().place);
    }

    private void blame(int fault, Token token) {
        if (token.place < latePlace || token.place == latePlace && fault < lateFault) {
            lateFault = fault;
            latePlace = token.place;
        }
    }

    private boolean sees(String... texts) {
        return (here().kind.equals("WORD") || here().kind.equals("SIGN")) && List.of(texts).contains(here().text);
    }

    private boolean accept(String text) {
        if (!sees(text)) {
            return false;
        }
        at++;
        return true;
    }

    private void expect(String text) {
        if (!accept(text)) {
            throw refuse(2);
        }
    }

    private Token expectKind(String kind) {
        if (!here().kind.equals(kind)) {
            throw refuse(2);
        }
        at++;
        return tokens.get(at - 1);
    }

    private long expectNumber() {
        return Long.parseLong(expectKind("NUMBER").text);
    }

    List<Clause> read() {
        List<Clause> clauses = new ArrayList<>();
        String last = "";
        while (!here().kind.equals("END") || !last.equals("RETURN") && !CHANGING.contains(last)) {
            if (clauses.size() == 8 || last.equals("RETURN")) {
                throw refuse(2);
            }
            clauses.add(readClause());
            last = clauses.get(clauses.size() - 1).kind;
        }
        if (lateFault != 0) {
            throw new Refused(lateFault, latePlace);
        }
        return clauses;
    }

    private Clause readClause() {
        if (!sees("MATCH", "OPTIONAL", "WITH", "CREATE", "DELETE", "DETACH", "SET", "REMOVE", "RETURN")) {
            throw refuse(2);
        }
        boolean flag = accept("OPTIONAL") || accept("DETACH");
        String prefix = flag ? tokens.get(at - 1).text : "";
        String kind = prefix.equals("OPTIONAL") ? "MATCH" : prefix.equals("DETACH") ? "DELETE" : here().text;
        expect(kind);
        Clause clause = new Clause(kind);
        clause.flag = flag;
        if (kind.equals("MATCH") || kind.equals("CREATE")) {
            readPaths(clause);
        } else if (kind.equals("DELETE")) {
            do {
                clause.deleted.add(readUsed(known));
            } while (accept(","));
        } else if (kind.equals("WITH") || kind.equals("RETURN")) {
            readResult(clause);
        } else {
            do {
                clause.changes.add(readChange(kind.equals("SET")));
            } while (accept(","));
        }
        if ((kind.equals("MATCH") || kind.equals("WITH")) && accept("WHERE")) {
            clause.where = readX(0, known, 0);
        }
        return clause;
    }

    private String readUsed(List<String> names) {
        Token token = expectKind("NAME");
        if (!names.contains(token.text)) {
            blame(4, token);
        }
        return token.text;
    }

    private Change readChange(boolean set) {
        String name = readUsed(known);
        if (accept(":")) {
            return new Change(name, true, expectKind("SORT").text, null);
        }
        expect(".");
        String key = expectKind("NAME").text;
        if (set) {
            expect("=");
        }
        return new Change(name, false, key, set ? readX(0, known, 0) : row -> null);
    }

    private void readPaths(Clause clause) {
        boolean match = clause.kind.equals("MATCH");
        ahead = new ArrayList<>(known);
        linked = new HashSet<>();
        size = 0;
        clause.paths = new ArrayList<>();
        do {
            clause.paths.add(readPath(match));
        } while (accept(","));
        clause.newNames = new ArrayList<>(known);
        clause.newNames.removeAll(ahead);
    }

    private void grow(boolean match, long more, Token token) {
        size += more;
        if (match && size > 4) {
            blame(5, token);
        }
    }

    private Path readPath(boolean match) {
        Token first = here();
        String shortest = null;
        if (match && first.kind.equals("NAME")) {
            shortest = makeNew(expectKind("NAME"));
            expect("=");
            expect("SHORTEST");
        }
        grow(match, shortest == null ? 1 : 2, first);
        List<Part> parts = new ArrayList<>();
        parts.add(readEnds(match));
        while (shortest == null ? sees("-", "<") : parts.size() == 1) {
            Token begin = here();
            Part link = readLink(match, shortest != null);
            if (shortest == null) {
                grow(match, link.most, begin);
            }
            parts.add(link);
            parts.add(readEnds(match));
        }
        return new Path(shortest, parts);
    }

    private void know(Token token) {
        if (known.size() >= 8) {
            blame(4, token);
        }
        known.add(token.text);
    }

    /** A NAME that a LINK or SHORTEST makes. */
    private String makeNew(Token token) {
        if (known.contains(token.text)) {
            blame(4, token);
        } else {
            know(token);
        }
        linked.add(token.text);
        return token.text;
    }

    private Part readEnds(boolean match) {
        Token open = here();
        expect("(");
        String name = null;
        boolean isNew = true;
        if (here().kind.equals("NAME")) {
            Token token = expectKind("NAME");
            name = token.text;
            isNew = !known.contains(name);
            if (isNew) {
                know(token);
            } else if (linked.contains(name)) {
                blame(4, token);
            }
        }
        List<String> sorts = new ArrayList<>();
        while (accept(":")) {
            sorts.add(expectKind("SORT").text);
        }
        List<Property> properties = readProperties();
        expect(")");
        if (!match && !isNew && !(sorts.isEmpty() && properties.isEmpty())) {
            blame(5, open);
        }
        return new Part(name, isNew, ahead.contains(name), sorts, properties, "", 0, 0);
    }

    private List<Property> readProperties() {
        List<Property> properties = new ArrayList<>();
        if (accept("{")) {
            do {
                String key = expectKind("NAME").text;
                expect(":");
                properties.add(new Property(key, readX(0, ahead, 0)));
            } while (accept(","));
            expect("}");
        }
        return properties;
    }

    private Part readLink(boolean match, boolean shortest) {
        Token begin = here();
        Token star = null;
        String arrow = accept("<") ? "<" : "";
        String name = null;
        List<String> sorts = new ArrayList<>();
        List<Property> properties = List.of();
        long least = 1;
        long most = shortest ? 9 : 1;
        expect("-");
        if (accept("[")) {
            name = here().kind.equals("NAME") ? makeNew(expectKind("NAME")) : null;
            for (String sign = ":"; accept(sign); sign = "|") {
                sorts.add(expectKind("SORT").text);
            }
            if (sees("*")) {
                star = here();
                at++;
                least = expectNumber();
                most = accept("..") ? expectNumber() : least;
            }
            properties = readProperties();
            expect("]");
        }
        expect("-");
        arrow += accept(">") ? ">" : "";
        boolean told = name != null || !properties.isEmpty();
        boolean bad = match ? arrow.length() == 2 || shortest && told
                : sorts.size() != 1 || star != null || arrow.length() != 1;
        if (bad) {
            blame(5, begin);
        }
        boolean fit = 1 <= least && least <= most && most <= (shortest ? 9 : 3);
        if (match && star != null && (told || !fit)) {
            blame(5, star);
        }
        return new Part(name, true, false, sorts, properties, arrow, least, most);
    }

    private void readResult(Clause clause) {
        clause.flag = accept("DISTINCT");
        do {
            if (clause.items.size() == 6) {
                throw refuse(2);
            }
            readItem(clause);
        } while (accept(","));
        known = new ArrayList<>(clause.columns);
        if (accept("ORDER")) {
            expect("BY");
            do {
                if (clause.orders.size() == 3) {
                    throw refuse(2);
                }
                clause.orders.add(new Order(readX(0, known, 0), accept("DESC")));
            } while (accept(","));
        }
        clause.skip = accept("SKIP") ? expectNumber() : 0;
        clause.limit = accept("LIMIT") ? expectNumber() : Long.MAX_VALUE;
    }

    private void readItem(Clause clause) {
        Token first = here();
        int begin = at;
        clause.items.add(sees("COUNT", "SUM", "MIN", "MAX") ? readAggregate() : new Item("", false, readX(0, known, 0)));
        Token name = first.kind.equals("NAME") && at == begin + 1 ? first : null;
        if (accept("AS")) {
            name = expectKind("NAME");
        }
        if (name == null && clause.kind.equals("WITH")) {
            blame(6, first);
        }
        if (name != null && clause.columns.contains(name.text)) {
            blame(4, name);
        }
        clause.columns.add(name == null ? null : name.text);
    }

    private Item readAggregate() {
        String name = expectKind("WORD").text;
        expect("(");
        Item item;
        if (name.equals("COUNT") && accept("*")) {
            item = new Item("*", false, row -> null);
        } else {
            boolean distinct = accept("DISTINCT");
            item = new Item(name, distinct, readX(0, known, 1));
        }
        expect(")");
        return item;
    }

    /** An X of this row of signs and the stronger ones below it. */
    private X readX(int level, List<String> names, int depth) {
        if (depth == 10) {
            throw refuse(3);
        }
        if (level == 3) {
            if (accept("NOT")) {
                X x = readX(3, names, depth + 1);
                return row -> PlainSigns.not(x.look(row));
            }
            return readX(4, names, depth);
        }
        if (level == 4) {
            return readComparison(names, depth);
        }
        if (level == 7) {
            return readOperand(names, depth);
        }
        X x = readX(level + 1, names, depth);
        while (sees(LEVELS[level])) {
            x = readBetween(x, level, names, depth);
        }
        return x;
    }

    private X readBetween(X left, int level, List<String> names, int depth) {
        String sign = here().text;
        at++;
        X right = readX(level + 1, names, depth);
        return row -> {
            Object a = left.look(row);
            return PlainSigns.between(sign, a, right.look(row));
        };
    }

    private X readComparison(List<String> names, int depth) {
        X x = readX(5, names, depth);
        if (accept("IS")) {
            boolean not = accept("NOT");
            expect("NULL");
            return row -> (x.look(row) == null) != not;
        }
        return sees("=", "<>", "<", "<=", ">", ">=") ? readBetween(x, 4, names, depth) : x;
    }

    private X readOperand(List<String> names, int depth) {
        String text = here().text;
        switch (here().kind) {
            case "NUMBER":
                long number = expectNumber();
                return row -> number;
            case "TEXT":
                at++;
                return row -> text.substring(1, text.length() - 1);
            case "NAME":
                return readNamed(names);
            default:
                break;
        }
        if (sees("TRUE", "FALSE", "NULL")) {
            at++;
            Object value = text.equals("NULL") ? null : (Object) text.equals("TRUE");
            return row -> value;
        }
        if (accept("-")) {
            X x = readX(7, names, depth + 1);
            return row -> PlainSigns.negate(x.look(row));
        }
        if (!sees("(", "ID", "TYPE", "SIZE", "DEGREE", "COALESCE")) {
            throw refuse(2);
        }
        return readFunction(names, depth);
    }

    private X readNamed(List<String> names) {
        String name = readUsed(names);
        if (accept(".")) {
            String key = expectKind("NAME").text;
            return row -> graph.property(row.get(name), key);
        }
        if (accept(":")) {
            String sort = expectKind("SORT").text;
            return row -> graph.hasSort(row.get(name), sort);
        }
        return row -> row.get(name);
    }

    private X readFunction(List<String> names, int depth) {
        String function = here().text;
        if (!function.equals("(")) {
            at++;
        }
        expect("(");
        X x = readX(0, names, depth + 1);
        X other = row -> null;
        if (function.equals("COALESCE")) {
            expect(",");
            other = readX(0, names, depth + 1);
        }
        expect(")");
        X second = other;
        return row -> {
            Object value = x.look(row);
            Object instead = second.look(row);
            return function.equals("(") ? value
                    : !function.equals("COALESCE") ? graph.function(function, value)
                    : value == null ? instead : value;
        };
    }
}
