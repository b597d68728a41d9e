import java.util.ArrayList;
import java.util.List;
import java.util.Random;

/** Makes up statements, most of them without FAULT; the same ones for the same seed. */
final class StatementMaker {
    private static final String[] NODES = {"a", "b", "c", "d", "e", "f"};
    private static final String[] LINKS = {"r", "s", "u"};
    private static final String[] LABELS = {"A", "B", "C", "Ab", "T", "S"};
    private static final String[] TYPES = {"T", "S", "U1"};
    private static final String[] KEYS = {"k", "t", "w", "k1", "x", "y", "z"};
    private static final String[] NUMBERS = {"0", "1", "2", "3", "5", "10", "999999999999999999"};
    private static final String[] TEXTS = {"''", "'a'", "'ab'", "'x y'", "'T'", "'abcdefghijklm'", "'abcdefghijklmnopqrstuvwx'"};
    private static final String[] ODD = {"(", ")", "[", "{", ":", ",", ".", "..", "*", "-", "=", "<>", "<", ">=", "|", "!", "'",
        "a", "A", "1", "'q'", " NOT ", " IS NULL ", " AS a ", " DISTINCT ", " ABC ", " abcdefghi ", " MATCH ", " RETURN ",
        " WHERE ", " DESC ", " LIMIT 1 ", " ORDER BY a ", " NULL ", "- - ", "((((((((((", "NOT NOT NOT NOT NOT NOT NOT NOT NOT NOT "};

    private final Random random;
    private List<String> known = new ArrayList<>();

    StatementMaker(long seed) {
        random = new Random(seed);
    }

    /** Whether what comes up so many times in a hundred comes up. */
    boolean chance(int percent) {
        return random.nextInt(100) < percent;
    }

    int below(int bound) {
        return random.nextInt(bound);
    }

    String pick(String... choices) {
        return choices[random.nextInt(choices.length)];
    }

    String statement() {
        known = new ArrayList<>();
        int clauses = new int[] {1, 1, 2, 2, 2, 3, 3, 4, 5, 8}[below(10)];
        StringBuilder text = new StringBuilder();
        for (int i = 0; i < clauses; i++) {
            text.append(i == 0 ? "" : " ").append(clause(i == clauses - 1));
        }
        return chance(10) ? spoil(text.toString()) : text.toString();
    }

    /** Puts something odd in the place of a few characters. */
    private String spoil(String text) {
        int from = below(text.length());
        int to = Math.min(text.length(), from + below(3));
        return chance(10) ? text.substring(0, from) : text.substring(0, from) + pick(ODD) + text.substring(to);
    }

    private String clause(boolean last) {
        boolean start = known.isEmpty() && chance(95);
        String kind = start && last ? pick("CREATE", "CREATE", "RETURN")
                : start ? pick("MATCH", "MATCH", "OPTIONAL MATCH", "CREATE")
                : last ? pick("RETURN", "RETURN", "RETURN", "CREATE", "SET", "REMOVE", "DELETE", "DETACH DELETE")
                : pick("MATCH", "MATCH", "MATCH", "OPTIONAL MATCH", "WITH", "WITH", "CREATE", "SET", "REMOVE",
                        "DELETE", "DETACH DELETE");
        switch (kind) {
            case "MATCH":
            case "OPTIONAL MATCH":
                return kind + " " + patterns(false) + (chance(35) ? " WHERE " + condition() : "");
            case "CREATE":
                return kind + " " + patterns(true);
            case "WITH":
                return kind + " " + result(true) + (chance(20) ? " WHERE " + condition() : "");
            case "RETURN":
                return kind + " " + result(false);
            case "SET":
            case "REMOVE":
                return kind + " " + changes(kind.equals("SET"));
            default:
                return kind + " " + name() + (chance(30) ? "," + name() : "");
        }
    }

    private String condition() {
        return chance(50) ? x(1) : "ID(" + name() + ")" + pick("<", ">=", "=", "<>") + below(6);
    }

    private String changes(boolean set) {
        StringBuilder text = new StringBuilder();
        for (int i = 0; i == 0 || chance(40); i++) {
            text.append(i == 0 ? "" : ",").append(name());
            text.append(chance(35) ? ":" + pick(LABELS) : "." + pick(KEYS) + (set ? "=" + x(1) : ""));
        }
        return text.toString();
    }

    private String name() {
        return known.isEmpty() || chance(1) ? pick(NODES) : known.get(below(known.size()));
    }

    private String know(String name) {
        if (!known.contains(name)) {
            known.add(name);
        }
        return name;
    }

    private String endsName() {
        return know(pick(chance(98) ? NODES : LINKS));
    }

    /** A NAME that a LINK or SHORTEST can make, most often; none if there is none left. */
    private String linkName() {
        String name = pick(chance(98) ? LINKS : NODES);
        return known.contains(name) && chance(95) ? "" : know(name);
    }

    private String patterns(boolean create) {
        StringBuilder text = new StringBuilder();
        for (int i = 0; i == 0 || chance(create ? 50 : 20); i++) {
            text.append(i == 0 ? "" : ",").append(pattern(create));
        }
        return text.toString();
    }

    private String pattern(boolean create) {
        String shortest = !create && chance(12) ? linkName() : "";
        if (!shortest.isEmpty()) {
            return shortest + "=SHORTEST " + ends(false) + shortestLink() + ends(false);
        }
        StringBuilder text = new StringBuilder(ends(create));
        while (chance(35)) {
            text.append(create ? createdLink() : matchedLink()).append(ends(create));
        }
        return text.toString();
    }

    private String ends(boolean create) {
        int before = known.size();
        String name = chance(80) ? endsName() : "";
        StringBuilder text = new StringBuilder("(").append(name);
        boolean isNew = name.isEmpty() || known.size() > before;
        if (!create || isNew || chance(2)) {
            while (chance(create ? 35 : 15)) {
                text.append(":").append(pick(LABELS));
            }
            text.append(chance(create ? 40 : 12) ? properties() : "");
        }
        return text.append(")").toString();
    }

    private String properties() {
        StringBuilder text = new StringBuilder("{");
        List<String> all = known;
        /* What the CLAUSE made is not KNOWN here, most often. */
        known = chance(96) ? List.of() : known;
        for (int i = 0; i == 0 || chance(30); i++) {
            text.append(i == 0 ? "" : ",").append(pick(KEYS)).append(":");
            text.append(chance(70) ? pick("0", "1", "2", "'a'", "TRUE") : x(2));
        }
        known = all;
        return text.append("}").toString();
    }

    private String arrow(String inner, boolean one) {
        String link = "-" + (inner.isEmpty() && chance(80) ? "" : "[" + inner + "]") + "-";
        return chance(2) ? "<" + link + ">" : chance(40) ? "<" + link : one || chance(60) ? link + ">" : link;
    }

    private String createdLink() {
        String name = chance(40) ? linkName() : "";
        return arrow(name + ":" + pick(TYPES) + (chance(30) ? properties() : ""), chance(98));
    }

    private String types() {
        return chance(30) ? ":" + pick(TYPES) + (chance(40) ? "|" + pick(TYPES) : "") : "";
    }

    private String matchedLink() {
        if (chance(25)) {
            return arrow(types() + "*" + pick("1..2", "1..2", "1..2", "2", "2", "1", "1", "1..3", "2..3", "0", "3..1", "4"), false);
        }
        return arrow((chance(40) ? linkName() : "") + types() + (chance(5) ? properties() : ""), false);
    }

    private String shortestLink() {
        return arrow(types() + (chance(30) ? "*" + pick("1..3", "2", "1..9", "2..4", "9", "3..2", "10") : ""), false);
    }

    private String result(boolean with) {
        StringBuilder text = new StringBuilder(chance(20) ? "DISTINCT " : "");
        List<String> columns = new ArrayList<>();
        for (int i = 0; i == 0 || i < 7 && chance(45); i++) {
            text.append(i == 0 ? "" : ",").append(item(with, columns));
        }
        known = columns;
        for (int i = 0; i == 0 ? chance(30) : i < 4 && chance(40); i++) {
            text.append(i == 0 ? " ORDER BY " : ",").append(chance(60) ? name() : x(2)).append(pick("", " DESC"));
        }
        text.append(chance(12) ? " SKIP " + pick("0", "1", "2", "5") : "");
        return text.append(chance(15) ? " LIMIT " + pick("0", "1", "2", "7", "999999999999999999") : "").toString();
    }

    private String item(boolean with, List<String> columns) {
        String name = name();
        boolean alone = chance(40) && !known.isEmpty() && !columns.contains(name);
        String text = alone ? name : chance(40) && !known.isEmpty() ? aggregate() : x(1);
        String column = pick(NODES);
        for (int i = 0; i < 20 && columns.contains(column) && chance(95); i++) {
            column = pick(NODES);
        }
        if (with && !alone && chance(97) || chance(30)) {
            columns.add(column);
            return text + " AS " + column;
        }
        if (alone) {
            columns.add(name);
        }
        return text;
    }

    private String aggregate() {
        return chance(20) ? "COUNT(*)" : pick("COUNT", "SUM", "MIN", "MAX") + "(" + pick("", "", "DISTINCT ")
                + (chance(40) ? "ID(" + name() + ")" : chance(40) ? name() : x(2)) + ")";
    }

    /** An X, whose operands are of the right kinds, most often. */
    private String x(int depth) {
        return chance(10) ? odd(depth) : chance(50) ? truth(depth) : number(depth);
    }

    private String inside(String text) {
        return chance(95) ? "(" + text + ")" : text;
    }

    private String number(int depth) {
        switch (depth > 3 || known.isEmpty() ? below(5) : below(11)) {
            case 0:
            case 1:
                return pick(NUMBERS);
            case 2:
                return "-" + pick(NUMBERS);
            case 3:
                return "SIZE(" + pick(TEXTS) + ")";
            case 4:
                return pick(NUMBERS) + pick("+", "-", "*") + pick(NUMBERS);
            case 5:
            case 6:
                return number(depth + 1) + pick("+", "-", "*", "/", "%") + inside(number(depth + 1));
            case 7:
                return "ID(" + name() + ")";
            case 8:
                return "DEGREE(" + name() + ")";
            case 9:
                return "COALESCE(" + name() + "." + pick(KEYS) + "," + number(depth + 1) + ")";
            default:
                return name() + "." + pick(KEYS);
        }
    }

    private String truth(int depth) {
        switch (depth > 3 || known.isEmpty() ? below(4) : below(8)) {
            case 0:
                return pick("TRUE", "FALSE", "NULL");
            case 1:
                return number(depth + 1) + pick("=", "<>", "<", "<=", ">", ">=") + number(depth + 1);
            case 2:
                return pick(TEXTS) + pick("=", "<>", "<", "<=", ">", ">=") + pick(TEXTS);
            case 3:
                return number(depth + 1) + pick(" IS NULL", " IS NOT NULL");
            case 4:
                return "NOT " + inside(truth(depth + 1));
            case 5:
                return name() + ":" + pick(chance(50) ? LABELS : TYPES);
            case 6:
                return name() + "." + pick(KEYS) + pick("=", "<>", "<", ">") + odd(4);
            default:
                return inside(truth(depth + 1)) + pick(" AND ", " OR ", " XOR ") + inside(truth(depth + 1));
        }
    }

    /** An X of any kinds. */
    private String odd(int depth) {
        String name = name();
        switch (depth > 3 ? below(4) : below(8)) {
            case 0:
                return pick("TRUE", "FALSE", "NULL");
            case 1:
                return pick(NUMBERS);
            case 2:
                return pick(TEXTS);
            case 3:
                return known.isEmpty() ? "NULL" : pick(name, name + "." + pick(KEYS), name + ":" + pick(LABELS));
            case 4:
                return odd(depth + 1) + pick("+", "-", "*", "/", "%", "=", "<", " AND ", " OR ", " XOR ") + odd(depth + 1);
            case 5:
                return pick("NOT ", "-") + odd(depth + 1);
            case 6:
                return pick("ID", "TYPE", "SIZE", "DEGREE") + "(" + odd(depth + 1) + ")";
            default:
                return "COALESCE(" + odd(depth + 1) + "," + odd(depth + 1) + ")";
        }
    }
}
