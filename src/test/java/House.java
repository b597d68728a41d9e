/** A new GraphHouse, asked in statements, and a count of all that was not answered as is due. */
final class House {
    private static int wrong;

    final GraphHouse house = new GraphHouse();
    private final String name;

    House(String name) {
        this.name = name;
    }

    /** Ends a test's main method: exit code 1 if an answer was wrong. */
    static void end() {
        System.out.println(wrong == 0 ? "all answers are as due" : wrong + " answers are not as due");
        if (wrong != 0) {
            System.exit(1);
        }
    }

    void due(String call, Object got, Object want) {
        if (!want.equals(got)) {
            wrong++;
            System.out.println(name + ": " + call + " answered " + got + ", due is " + want);
        }
    }

    /** Types the whole text, up to eight characters a call. */
    void type(String text) {
        for (int i = 0; i < text.length(); i += 8) {
            int n = Math.min(8, text.length() - i);
            long word = 0;
            for (int k = 0; k < n; k++) {
                word = word << 8 | text.charAt(i + k);
            }
            due("type " + text.substring(i, i + n), house.type(word, n), true);
        }
    }

    /** Runs a statement and compares what comes of it, as told by ask(). */
    void due(String statement, String want) {
        due(statement, ask(statement), want);
    }

    /**
     * Runs a statement: "fault 2 at 7", "error 4 in 0", "off", or its rows as in "N0,R1,5,'a',true,null|..."
     * ("done" without any).
     */
    String ask(String statement) {
        type(statement);
        try {
            int rows = house.run();
            due(statement + " table(0)", house.table(0), rows);
            return rows == 0 ? "done" : rows();
        } catch (IllegalArgumentException e) {
            return "fault " + house.fault(0) + " at " + house.fault(1);
        } catch (ArithmeticException e) {
            return "error " + house.fault(2) + " in " + house.fault(3);
        } catch (IllegalStateException e) {
            return "off";
        }
    }

    private String rows() {
        StringBuilder text = new StringBuilder();
        for (int row = 0; row < house.table(0); row++) {
            text.append(row == 0 ? "" : "|");
            for (int column = 0; column < house.table(1); column++) {
                text.append(column == 0 ? "" : ",").append(cell(row, column));
            }
        }
        return text.toString();
    }

    private String cell(int row, int column) {
        long value = house.value(row, column);
        switch (house.kind(row, column)) {
            case 0:
                return value == 0 ? "null" : "null?";
            case 1:
                return "" + value;
            case 2:
                return value == 1 ? "true" : value == 0 ? "false" : "truth?";
            case 3:
                StringBuilder text = new StringBuilder("'");
                for (int i = 0; i < value; i++) {
                    text.append((char) house.letter(row, column, i));
                }
                return text.append("'").toString();
            case 4:
                return "N" + value;
            default:
                return "R" + value;
        }
    }

    /** What state(what) answers for each of the digits. */
    String state(String whats) {
        StringBuilder text = new StringBuilder();
        for (int i = 0; i < whats.length(); i++) {
            text.append(i == 0 ? "" : " ").append(house.state(whats.charAt(i) - '0'));
        }
        return text.toString();
    }

    int commit() {
        try {
            return house.commit();
        } catch (IllegalStateException e) {
            return -99;
        }
    }

    int checkpoint() {
        try {
            return house.checkpoint();
        } catch (IllegalStateException e) {
            return -99;
        }
    }
}
