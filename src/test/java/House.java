import java.util.NoSuchElementException;

/**
 * A new GraphHouse, asked in statements, and a count of all that was not answered as is due. Its calls are counted, too:
 * behind the 512th one an object may answer as it likes, so a test that needs more of them would prove nothing.
 */
final class House {
    private static final int MOST_CALLS = 512;
    /** What commit() and checkpoint() are told to have answered when they throw. */
    static final int OFF = -99;

    private static int wrong;

    private final GraphHouse house = new GraphHouse();
    private final String name;
    private int calls;

    House(String name) {
        this.name = name;
    }

    /** Ends a test's main method: exit code 1 if an answer was wrong. */
    static void end() {
        System.out.println(wrong == 0 ? "all answers are as due" : wrong + " answers are not as due");
        if (wrong != 0) {
            System.exit(1);
        }
    }

    void due(String call, Object got, Object want) {
        if (!want.equals(got)) {
            wrong++;
            System.out.println(name + ": " + call + " answered " + got + ", due is " + want);
        }
    }

    private GraphHouse counted() {
        calls++;
        if (calls == MOST_CALLS + 1) {
            due("calls", "more than " + MOST_CALLS, "at most " + MOST_CALLS);
        }
        return house;
    }

    /** How many calls are left that have to be answered. */
    int callsLeft() {
        return MOST_CALLS - calls;
    }

    boolean type(long word, int n) {
        return counted().type(word, n);
    }

    int fault(int what) {
        return counted().fault(what);
    }

    int table(int what) {
        return counted().table(what);
    }

    int kind(int row, int column) {
        return counted().kind(row, column);
    }

    /** What value() answers, or "none" when it throws. */
    String value(int row, int column) {
        try {
            return "" + counted().value(row, column);
        } catch (NoSuchElementException e) {
            return "none";
        }
    }

    int letter(int row, int column, int i) {
        return counted().letter(row, column, i);
    }

    int head(int column, int i) {
        return counted().head(column, i);
    }

    int node(int n, int what) {
        return counted().node(n, what);
    }

    int relationship(int r, int what) {
        return counted().relationship(r, what);
    }

    boolean begin() {
        return counted().begin();
    }

    int commit() {
        try {
            return counted().commit();
        } catch (IllegalStateException e) {
            return OFF;
        }
    }

    boolean rollback() {
        return counted().rollback();
    }

    int checkpoint() {
        try {
            return counted().checkpoint();
        } catch (IllegalStateException e) {
            return OFF;
        }
    }

    boolean cut(int n) {
        return counted().cut(n);
    }

    int recover() {
        return counted().recover();
    }

    int state(int what) {
        return counted().state(what);
    }

    /** Types the whole text, up to eight characters a call. */
    void type(String text) {
        for (int i = 0; i < text.length(); i += 8) {
            int n = Math.min(8, text.length() - i);
            long word = 0;
            for (int k = 0; k < n; k++) {
                word = word << 8 | text.charAt(i + k);
            }
            due("type " + text.substring(i, i + n), type(word, n), true);
        }
    }

    /** Runs a statement and compares what comes of it, as told by ask(). */
    void due(String statement, String want) {
        due(statement, ask(statement), want);
    }

    /** Runs each row's statement, all in this house, and compares what comes of it. */
    void dueInTurn(String[][] rows) {
        for (String[] row : rows) {
            due(row[0], row[1]);
        }
    }

    /** Runs each row's statement in a new house that the first statement was run in, and compares what comes of it. */
    static void dueApart(String name, String first, String[][] rows) {
        for (String[] row : rows) {
            House h = new House(name);
            if (!first.isEmpty()) {
                h.due(first, "done");
            }
            h.due(row[0], row[1]);
        }
    }

    /** Runs one statement in a new house. */
    static void dueAlone(String statement, String want) {
        new House("alone").due(statement, want);
    }

    /** Runs one statement, which has a ^ (no part of it) ahead of the place of its FAULT, in a new house. */
    static void dueFault(int kind, String marked) {
        int place = marked.indexOf('^');
        dueAlone(marked.substring(0, place) + marked.substring(place + 1), "fault " + kind + " at " + place);
    }

    /** A statement that makes so many NODES. */
    static String nodes(int count) {
        return "CREATE " + "(),".repeat(count - 1) + "()";
    }

    /**
     * Runs a statement: "fault 2 at 7", "error 4 in 0", "off", or its rows as in "N0,R1,5,'a',true,null|..."
     * ("done" without any).
     */
    String ask(String statement) {
        type(statement);
        try {
            int rows = counted().run();
            due(statement + " table(0)", table(0), rows);
            return rows == 0 ? "done" : rows(rows, table(1));
        } catch (IllegalArgumentException e) {
            return "fault " + fault(0) + " at " + fault(1);
        } catch (ArithmeticException e) {
            return "error " + fault(2) + " in " + fault(3);
        } catch (IllegalStateException e) {
            return "off";
        }
    }

    /** Runs a statement that has neither FAULT nor ERROR, and reads nothing of what it returned. */
    int run(String statement) {
        type(statement);
        return counted().run();
    }

    private String rows(int rows, int columns) {
        StringBuilder text = new StringBuilder();
        for (int row = 0; row < rows; row++) {
            text.append(row == 0 ? "" : "|");
            for (int column = 0; column < columns; column++) {
                text.append(column == 0 ? "" : ",").append(cell(row, column));
            }
        }
        return text.toString();
    }

    private String cell(int row, int column) {
        String value = value(row, column);
        switch (kind(row, column)) {
            case 0:
                return value.equals("0") ? "null" : "null?";
            case 1:
                return value;
            case 2:
                return value.equals("1") ? "true" : value.equals("0") ? "false" : "truth?";
            case 3:
                StringBuilder text = new StringBuilder("'");
                for (int i = 0; i < Integer.parseInt(value); i++) {
                    text.append((char) letter(row, column, i));
                }
                return text.append("'").toString();
            case 4:
                return "N" + value;
            case 5:
                return "R" + value;
            default:
                return "kind?";
        }
    }

    /** What state(what) answers for each of the digits. */
    String state(String whats) {
        StringBuilder text = new StringBuilder();
        for (int i = 0; i < whats.length(); i++) {
            text.append(i == 0 ? "" : " ").append(state(whats.charAt(i) - '0'));
        }
        return text.toString();
    }

    /** All that fault() tells. */
    String faults() {
        return fault(0) + " " + fault(1) + " " + fault(2) + " " + fault(3);
    }

    /** All that node() tells of one. */
    String node(int n) {
        return node(n, 0) + " " + node(n, 1) + " " + node(n, 2) + " " + node(n, 3);
    }

    /** All that relationship() tells of one. */
    String relationship(int r) {
        return relationship(r, 0) + " " + relationship(r, 1) + " " + relationship(r, 2);
    }

    /** The NAME of a column. */
    String head(int column) {
        StringBuilder text = new StringBuilder();
        for (int i = 0; i < 9 && head(column, i) != GraphHouse.NONE; i++) {
            text.append((char) head(column, i));
        }
        return text.toString();
    }

    /** Whatever can be asked of a small house without changing it: to see that a refused call changed nothing. */
    String all() {
        StringBuilder text = new StringBuilder(state("01234567"));
        text.append(" fault ").append(faults()).append(" table ").append(table(0)).append(' ').append(table(1));
        for (int n = 0; n < 3; n++) {
            text.append(" node ").append(node(n)).append(" relationship ").append(relationship(n));
        }
        for (int column = 0; column < 2; column++) {
            text.append(" column ").append(head(column)).append(' ').append(kind(0, column)).append(' ');
            text.append(value(0, column)).append(' ').append(letter(0, column, 0));
        }
        return text.toString();
    }
}
