import java.util.Arrays;
import java.util.NoSuchElementException;

/** A database of a graph, asked and changed by statements, kept in a log against failing power. */
public final class GraphHouse {
    public static final int NONE = -1;

    private static final int NODES = 64;
    private static final int RELATIONSHIPS = 96;
    private static final int THINGS = NODES + RELATIONSHIPS;
    private static final int LABELS = 4;
    private static final int PROPERTIES = 6;
    private static final int TAPE = 400;
    private static final int ROWS = 200;
    private static final int WIDTH = 8;
    private static final int LOG = 250;
    private static final int NO_ROOM = -2;
    private static final int FARTHEST_CUT = 2000;
    private static final int MOST_WORK = 20000;

    private static final int NULL = 0;
    private static final int NUMBER = 1;
    private static final int TRUTH = 2;
    private static final int TEXT = 3;
    private static final int NODE = 4;
    private static final int RELATIONSHIP = 5;
    private static final int LONGEST_TEXT = 24;
    private static final int LONGEST_NAME = 8;

    private static final int ERROR_ROWS = 1;
    private static final int ERROR_KIND = 2;
    private static final int ERROR_BEYOND = 3;
    private static final int ERROR_ZERO = 4;
    private static final int ERROR_TEXT = 5;
    private static final int ERROR_TOO_MANY = 6;
    private static final int ERROR_TIED = 7;
    private static final int ERROR_GONE = 8;
    private static final int ERROR_LOG = 9;
    private static final int ERROR_WORK = 10;

    private final Tape tape = new Tape();
    private final Statement statement = new Statement(tape);
    private final Graph live = new Graph();
    private final Graph before = new Graph();
    /* What would be RECOVERED: the graph as the last END in the LOG, or the CHECKPOINT, left it.
       Holding it whole makes replaying the LOG needless, so of the LOG only counts are held. */
    private final Graph kept = new Graph();
    private final Machine machine = new Machine(statement, live);
    private final Doer doer = new Doer(statement, live, machine);
    private boolean off;
    private boolean underWay;
    private int writes;
    private int writesToCut;
    private int logged;
    private int loggedWithoutEnd;
    private int loggedTransactions;
    private int faultKind;
    private int faultPlace;
    private int error;
    private int errorClause;
    private boolean returned;

    public GraphHouse() {
    }

    public boolean type(long word, int n) {
        return tape.add(word, n);
    }

    public int run() throws IllegalArgumentException, ArithmeticException, IllegalStateException {
        forgetLatestRun();
        tape.readTokens();
        if (off) {
            throw new IllegalStateException();
        }
        if (!statement.read()) {
            faultKind = statement.faultKind;
            faultPlace = statement.faultPlace;
            throw new IllegalArgumentException();
        }
        startStatement();
        error = doer.perform();
        errorClause = error == 0 ? 0 : doer.clauseNumber;
        if (error == 0 && !underWay && !hasRoom()) {
            error = ERROR_LOG;
            errorClause = statement.clauseCount;
        }
        if (error != 0) {
            live.copyFrom(before);
            throw new ArithmeticException();
        }
        if (!underWay && !writeTransaction()) {
            throw new IllegalStateException();
        }
        returned = statement.lastClause().kind == Token.RETURN;
        return returned ? machine.now.rows : 0;
    }

    public int fault(int what) {
        switch (what) {
            case 0:
                return faultKind;
            case 1:
                return faultPlace;
            case 2:
                return error;
            case 3:
                return errorClause;
            default:
                return NONE;
        }
    }

    public int table(int what) {
        switch (what) {
            case 0:
                return returned ? machine.now.rows : 0;
            case 1:
                return columns();
            default:
                return NONE;
        }
    }

    public int kind(int row, int column) {
        return hasValue(row, column) ? machine.now.kindAt(row * WIDTH + column) : NONE;
    }

    public long value(int row, int column) throws NoSuchElementException {
        if (!hasValue(row, column)) {
            throw new NoSuchElementException();
        }
        int cell = row * WIDTH + column;
        return machine.now.kindAt(cell) == TEXT ? machine.now.sizeAt(cell) : machine.now.longAt(cell);
    }

    public int letter(int row, int column, int i) {
        if (!hasValue(row, column)) {
            return NONE;
        }
        int cell = row * WIDTH + column;
        if (machine.now.kindAt(cell) != TEXT || i < 0 || i >= machine.now.sizeAt(cell)) {
            return NONE;
        }
        return machine.now.characterAt(cell, i);
    }

    public int head(int column, int i) {
        if (column < 0 || column >= columns() || i < 0 || i >= LONGEST_NAME) {
            return NONE;
        }
        Piece item = statement.pieces[statement.lastClause().piecesFrom + column];
        int character = (int) (item.word >>> (56 - 8 * i)) & 255;
        return character == 0 ? NONE : character;
    }

    public int node(int n, int what) {
        if (off || n < 0 || n >= NODES || !live.isThere(n)) {
            return NONE;
        }
        switch (what) {
            case 0:
                return live.countSorts(n);
            case 1:
                return live.countProperties(n);
            case 2:
                return live.countJoined(live.starts, n);
            case 3:
                return live.countJoined(live.ends, n);
            default:
                return NONE;
        }
    }

    public int relationship(int r, int what) {
        if (off || r < 0 || r >= RELATIONSHIPS || !live.isThere(NODES + r)) {
            return NONE;
        }
        switch (what) {
            case 0:
                return live.starts[r];
            case 1:
                return live.ends[r];
            case 2:
                return live.countProperties(NODES + r);
            default:
                return NONE;
        }
    }

    public boolean begin() {
        if (underWay || off) {
            return false;
        }
        underWay = true;
        live.changes = 0;
        return true;
    }

    public int commit() throws IllegalStateException {
        if (off) {
            throw new IllegalStateException();
        }
        if (!underWay) {
            return NONE;
        }
        if (!hasRoom()) {
            return NO_ROOM;
        }
        underWay = false;
        if (!writeTransaction()) {
            throw new IllegalStateException();
        }
        return live.changes == 0 ? 0 : live.changes + 1;
    }

    public boolean rollback() {
        if (!underWay) {
            return false;
        }
        underWay = false;
        live.copyFrom(kept);
        return true;
    }

    public int checkpoint() throws IllegalStateException {
        if (off) {
            throw new IllegalStateException();
        }
        if (underWay) {
            return NONE;
        }
        int due = live.countThings(0, THINGS) + 1;
        for (int i = 0; i < due; i++) {
            if (!write()) {
                throw new IllegalStateException();
            }
        }
        logged = 0;
        loggedTransactions = 0;
        return due;
    }

    public boolean cut(int n) {
        if (off || n < 0 || n > FARTHEST_CUT) {
            return false;
        }
        writesToCut = n;
        return true;
    }

    public int recover() {
        live.copyFrom(kept);
        off = false;
        underWay = false;
        writesToCut = 0;
        loggedWithoutEnd = 0;
        return loggedTransactions;
    }

    public int state(int what) {
        switch (what) {
            case 0:
                return off ? 0 : live.countThings(0, NODES);
            case 1:
                return off ? 0 : live.countThings(NODES, THINGS);
            case 2:
                return writes;
            case 3:
                return logged + loggedWithoutEnd;
            case 4:
                return off ? 1 : 0;
            case 5:
                return underWay ? 1 : 0;
            case 6:
                return machine.work;
            case 7:
                return underWay ? live.changes : 0;
            default:
                return NONE;
        }
    }

    private void forgetLatestRun() {
        faultKind = 0;
        faultPlace = 0;
        error = 0;
        errorClause = 0;
        returned = false;
    }

    private int columns() {
        return returned ? statement.lastClause().countPieces() : 0;
    }

    private boolean hasValue(int row, int column) {
        return returned && row >= 0 && row < machine.now.rows && column >= 0 && column < columns();
    }

    private void startStatement() {
        if (!underWay) {
            live.changes = 0;
        }
        before.copyFrom(live);
        live.forgetGone();
    }

    private boolean hasRoom() {
        return live.changes == 0 || logged + live.changes + 1 <= LOG;
    }

    /** Writes the CHANGES and the END to the LOG: whether the power did not fail. */
    private boolean writeTransaction() {
        int due = live.changes == 0 ? 0 : live.changes + 1;
        for (int i = 0; i < due; i++) {
            if (!write()) {
                loggedWithoutEnd = i;
                return false;
            }
        }
        if (due > 0) {
            logged += due;
            loggedTransactions++;
            kept.copyFrom(live);
        }
        return true;
    }

    private boolean write() {
        if (writesToCut == 1) {
            writesToCut = 0;
            off = true;
            return false;
        }
        if (writesToCut > 1) {
            writesToCut--;
        }
        writes++;
        return true;
    }

    /** What TOKENS there are; those that stand in an X are what it does, too. A level tells how strongly one binds. */
    private enum Token {
        END, NOTHING, UNKNOWN, NAME, SORT, NUMBER, TEXT, NEGATE,
        OPEN("("), CLOSE(")"), OPEN_LINK("["), CLOSE_LINK("]"), OPEN_KEYS("{"), CLOSE_KEYS("}"),
        COLON(":"), COMMA(","), DOT("."), DOTS(".."), BAR("|"),
        STAR("*", 7), SLASH("/", 7), PERCENT("%", 7), PLUS("+", 6), MINUS("-", 6),
        EQUAL("=", 5), UNEQUAL("<>", 5), LESS("<", 5), AT_MOST("<=", 5), MORE(">", 5), AT_LEAST(">=", 5), IS("IS", 5),
        NOT("NOT"), AND("AND", 3), XOR("XOR", 2), OR("OR", 1),
        MATCH("MATCH"), OPTIONAL("OPTIONAL"), WHERE("WHERE"), WITH("WITH"), CREATE("CREATE"), DELETE("DELETE"),
        DETACH("DETACH"), SET("SET"), REMOVE("REMOVE"), RETURN("RETURN"), SHORTEST("SHORTEST"),
        DISTINCT("DISTINCT"), AS("AS"), ORDER("ORDER"), BY("BY"), DESC("DESC"), SKIP("SKIP"), LIMIT("LIMIT"),
        COUNT("COUNT"), SUM("SUM"), MIN("MIN"), MAX("MAX"),
        NULL("NULL"), TRUE("TRUE"), FALSE("FALSE"),
        ID("ID"), TYPE("TYPE"), SIZE("SIZE"), DEGREE("DEGREE"), COALESCE("COALESCE");

        private static final Token[] ALL = values();

        final String text;
        final int level;

        Token() {
            this("", 0);
        }

        Token(String text) {
            this(text, 0);
        }

        Token(String text, int level) {
            this.text = text;
            this.level = level;
        }

        boolean changes() {
            return this == CREATE || this == DELETE || this == SET || this == REMOVE;
        }

        boolean beginsClause() {
            return changes() || this == MATCH || this == WITH || this == RETURN;
        }

        boolean isAggregate() {
            return this == COUNT || this == SUM || this == MIN || this == MAX;
        }
    }

    /** A row of VALUES, or a table of them with WIDTH to a row. */
    private static final class Cells {
        /* Four longs to a VALUE: its kind, then what it is. A text lies in three longs, its first
           character highest and zeros behind it, so that longs in order are texts in order. */
        final long[] words;
        int rows;

        Cells(int cells) {
            words = new long[cells * 4];
        }

        int kindAt(int cell) {
            return (int) words[cell * 4];
        }

        long longAt(int cell) {
            return words[cell * 4 + 1];
        }

        void put(int cell, int kind, long what) {
            words[cell * 4] = kind;
            words[cell * 4 + 1] = what;
            words[cell * 4 + 2] = 0;
            words[cell * 4 + 3] = 0;
        }

        void copy(int cell, Cells from, int other) {
            System.arraycopy(from.words, other * 4, words, cell * 4, 4);
        }

        void copyRow(int row, Cells from, int other) {
            System.arraycopy(from.words, other * WIDTH * 4, words, row * WIDTH * 4, WIDTH * 4);
        }

        /** The thing that a NODE or RELATIONSHIP is. */
        int thingAt(int cell) {
            return (int) words[cell * 4 + 1] + (words[cell * 4] == RELATIONSHIP ? NODES : 0);
        }

        int characterAt(int cell, int i) {
            return (int) (words[cell * 4 + 1 + i / 8] >>> (56 - 8 * (i % 8))) & 255;
        }

        void putCharacter(int cell, int i, int character) {
            words[cell * 4 + 1 + i / 8] |= (long) character << (56 - 8 * (i % 8));
        }

        int sizeAt(int cell) {
            int size = 0;
            for (int i = 0; i < LONGEST_TEXT; i++) {
                if ((words[cell * 4 + 1 + i / 8] >>> (56 - 8 * (i % 8)) & 255) != 0) {
                    size++;
                }
            }
            return size;
        }

        boolean alike(int cell, Cells other, int otherCell) {
            for (int i = 0; i < 4; i++) {
                if (words[cell * 4 + i] != other.words[otherCell * 4 + i]) {
                    return false;
                }
            }
            return true;
        }

        /** Below, at or above 0, as THE ORDER has the one ahead of the other, ALIKE or behind it. */
        int compare(int cell, Cells other, int otherCell) {
            int result = Integer.compare(rank(kindAt(cell)), rank(other.kindAt(otherCell)));
            for (int i = 1; i < 4 && result == 0; i++) {
                result = Long.compare(words[cell * 4 + i], other.words[otherCell * 4 + i]);
            }
            return result;
        }

        private static int rank(int kind) {
            return kind >= NODE ? kind - NODE : RELATIONSHIP - kind;
        }
    }

    /** THE TAPE, and the TOKENS that were last read from it. */
    private static final class Tape {
        private static final int LONGEST_NUMBER = 18;

        private final byte[] characters = new byte[TAPE];
        private int length;
        final Token[] tokens = new Token[TAPE + 1];
        final int[] places = new int[TAPE + 1];
        /* NAMES and SORTS, as the first long of a text is, and NUMBERS. */
        final long[] words = new long[TAPE + 1];
        final Cells values = new Cells(TAPE + 1);
        int count;

        boolean add(long word, int n) {
            if (n < 1 || n > 8 || length + n > TAPE) {
                return false;
            }
            for (int i = 0; i < n; i++) {
                long character = (word >>> (8 * i)) & 255;
                if (character < 32 || character > 126) {
                    return false;
                }
            }
            for (int i = n - 1; i >= 0; i--) {
                characters[length] = (byte) (word >>> (8 * i));
                length++;
            }
            return true;
        }

        /** Empties the tape, read up to the first characters that are no TOKEN; the last TOKEN is END always. */
        void readTokens() {
            count = 0;
            int at = 0;
            for (int i = 0; i < TAPE && at < length; i++) {
                at = characters[at] == ' ' ? at + 1 : readToken(at);
            }
            addToken(Token.END, length);
            length = 0;
        }

        private int readToken(int at) {
            int character = characters[at];
            if (isSmall(character)) {
                return addSpelled(Token.NAME, at, endOfSmall(at + 1));
            }
            if (isGreat(character)) {
                int end = endOfGreat(at + 1);
                return end > at + 1 ? addWord(at, end) : addSpelled(Token.SORT, at, endOfSmall(end));
            }
            if (isDigit(character)) {
                return addNumber(at);
            }
            return character == '\'' ? addText(at) : addSign(at);
        }

        private static boolean isSmall(int character) {
            return character >= 'a' && character <= 'z';
        }

        private static boolean isGreat(int character) {
            return character >= 'A' && character <= 'Z';
        }

        private static boolean isDigit(int character) {
            return character >= '0' && character <= '9';
        }

        private int endOfSmall(int at) {
            int end = at;
            while (end < length && (isSmall(characters[end]) || isDigit(characters[end]))) {
                end++;
            }
            return end;
        }

        private int endOfGreat(int at) {
            int end = at;
            while (end < length && isGreat(characters[end])) {
                end++;
            }
            return end;
        }

        private void addToken(Token token, int place) {
            tokens[count] = token;
            places[count] = place;
            words[count] = values.longAt(count);
            count++;
        }

        private int addNothing(int at) {
            addToken(Token.NOTHING, at);
            return length;
        }

        private int addSpelled(Token token, int from, int end) {
            if (end - from > LONGEST_NAME) {
                return addNothing(from);
            }
            spell(from, end);
            addToken(token, from);
            return end;
        }

        private void spell(int from, int end) {
            values.put(count, TEXT, 0);
            for (int i = from; i < end; i++) {
                values.putCharacter(count, i - from, characters[i]);
            }
        }

        private int addWord(int from, int end) {
            addToken(find(from, end), from);
            return end;
        }

        private int addNumber(int from) {
            int end = from;
            long number = 0;
            while (end < length && isDigit(characters[end])) {
                number = number * 10 + characters[end] - '0';
                end++;
            }
            if (end - from > LONGEST_NUMBER) {
                return addNothing(from);
            }
            values.put(count, NUMBER, number);
            addToken(Token.NUMBER, from);
            return end;
        }

        private int addText(int from) {
            int end = from + 1;
            while (end < length && characters[end] != '\'') {
                end++;
            }
            if (end >= length || end - from - 1 > LONGEST_TEXT) {
                return addNothing(from);
            }
            spell(from + 1, end);
            addToken(Token.TEXT, from);
            return end + 1;
        }

        private int addSign(int from) {
            Token pair = from + 2 <= length ? find(from, from + 2) : Token.UNKNOWN;
            if (pair != Token.UNKNOWN) {
                addToken(pair, from);
                return from + 2;
            }
            Token sign = find(from, from + 1);
            if (sign == Token.UNKNOWN) {
                return addNothing(from);
            }
            addToken(sign, from);
            return from + 1;
        }

        private Token find(int from, int end) {
            for (Token token : Token.ALL) {
                if (token.text.length() == end - from && isSpelled(token.text, from)) {
                    return token;
                }
            }
            return Token.UNKNOWN;
        }

        private boolean isSpelled(String text, int from) {
            for (int i = 0; i < text.length(); i++) {
                if (text.charAt(i) != characters[from + i]) {
                    return false;
                }
            }
            return true;
        }
    }

    /**
     * A part of a PATTERN (ENDS are of kind OPEN; a LINK is of kind MINUS, or SHORTEST with that one's NAME), or a
     * piece of a CLAUSE or part (SORT, PROPERTY, ITEM, CHANGE, NAME that is deleted, X of ORDER BY).
     */
    private static final class Piece {
        private static final int ANY_WAY = 0;
        private static final int ALONG = 1;
        private static final int AGAINST = 2;
        private static final int TWO_ARROWS = 3;

        Token kind;
        /* ENDS: not KNOWN until here; LINK: with a NAME; ITEM: an AGGREGATE with DISTINCT; X of ORDER BY: with DESC. */
        boolean flag;
        int place;
        int column;
        /* The SORT, KEY or column's NAME, as the tape's values have it. */
        long word;
        int from;
        int to;
        int sortsFrom;
        int sortsTo;
        int propertiesFrom;
        int propertiesTo;
        long least;
        long most;
        int way;

        void reset(Token newKind) {
            kind = newKind;
            flag = false;
            place = 0;
            column = NONE;
            word = 0;
            from = 0;
            to = 0;
            sortsFrom = 0;
            sortsTo = 0;
            propertiesFrom = 0;
            propertiesTo = 0;
            least = 1;
            most = 1;
            way = ANY_WAY;
        }

        boolean hasProperties() {
            return propertiesTo > propertiesFrom;
        }

        int countSorts() {
            return sortsTo - sortsFrom;
        }
    }

    /** A CLAUSE: its kind without OPTIONAL or DETACH, and where its parts, pieces and X lie. */
    private static final class Clause {
        Token kind;
        /* OPTIONAL, DETACH or DISTINCT. */
        boolean flag;
        int partsFrom;
        int partsTo;
        int piecesFrom;
        int piecesTo;
        int orderFrom;
        int orderTo;
        int whereFrom;
        int whereTo;
        long skip;
        long limit;
        int ahead;
        int known;

        void reset(int namesAhead) {
            kind = Token.END;
            flag = false;
            partsFrom = 0;
            partsTo = 0;
            piecesFrom = 0;
            piecesTo = 0;
            orderFrom = 0;
            orderTo = 0;
            whereFrom = 0;
            whereTo = 0;
            skip = 0;
            limit = Long.MAX_VALUE;
            ahead = namesAhead;
            known = namesAhead;
        }

        int countPieces() {
            return piecesTo - piecesFrom;
        }
    }

    /**
     * A STATEMENT, read from the tape's TOKENS. Every X is kept as what it does in turn on a stack: its
     * operands stand ahead of their sign.
     */
    private static final class Statement {
        private static final int CLAUSES = 8;
        private static final int ITEMS = 6;
        private static final int ORDERS = 3;
        private static final int DEEPEST = 10;
        private static final int SIZE = 4;
        private static final int LONGEST_CHAIN = 3;
        private static final int LONGEST_WAY = 9;

        private static final int LEVEL_ANY = 1;
        private static final int LEVEL_NOT = 4;
        private static final int LEVEL_COMPARE = 5;
        private static final int LEVEL_TIMES = 7;
        private static final int LEVEL_AHEAD = 8;

        private static final int FAULT_NO_TOKEN = 1;
        private static final int FAULT_TOKEN = 2;
        private static final int FAULT_DEEP = 3;
        private static final int FAULT_NAME = 4;
        private static final int FAULT_PATTERN = 5;
        private static final int FAULT_ITEM = 6;

        final Tape tape;
        final Clause[] clauses = new Clause[CLAUSES];
        int clauseCount;
        final Piece[] parts = new Piece[TAPE / 2];
        private int partCount;
        final Piece[] pieces = new Piece[TAPE / 2];
        private int pieceCount;
        final Token[] ops = new Token[TAPE];
        final int[] args = new int[TAPE];
        private int codeCount;
        /* The KNOWN NAMES, each with its column of the TABLE; 0 for a column without one. */
        private final long[] names = new long[WIDTH];
        private final boolean[] linked = new boolean[WIDTH];
        private int nameCount;
        /* How many of the NAMES an X knows. */
        private int sight;
        private int at;
        private boolean refused;
        int faultKind;
        int faultPlace;

        Statement(Tape tape) {
            this.tape = tape;
            for (int i = 0; i < clauses.length; i++) {
                clauses[i] = new Clause();
            }
            for (int i = 0; i < parts.length; i++) {
                parts[i] = new Piece();
                pieces[i] = new Piece();
            }
        }

        Clause lastClause() {
            return clauses[clauseCount - 1];
        }

        /** Reads all TOKENS: whether there is no FAULT. */
        boolean read() {
            clear();
            for (int i = 0; i < CLAUSES && (i == 0 || here() != Token.END); i++) {
                Clause clause = clauses[i];
                clauseCount = i + 1;
                startClause(clause);
                switch (clause.kind) {
                    case MATCH:
                        readPatterns(clause);
                        readWhere(clause);
                        break;
                    case CREATE:
                        readPatterns(clause);
                        break;
                    case WITH:
                        readResult(clause);
                        readWhere(clause);
                        break;
                    case RETURN:
                        readResult(clause);
                        break;
                    case DELETE:
                        readDeleted(clause);
                        break;
                    case SET:
                    case REMOVE:
                        readChanges(clause);
                        break;
                    default:
                        break;
                }
                clause.known = nameCount;
                if (clause.kind == Token.RETURN) {
                    break;
                }
            }
            Token last = lastClause().kind;
            if (here() != Token.END || !(last == Token.RETURN || last.changes())) {
                refuse(FAULT_TOKEN);
            }
            return faultKind == 0;
        }

        private void clear() {
            clauseCount = 1;
            partCount = 0;
            pieceCount = 0;
            codeCount = 0;
            nameCount = 0;
            refused = false;
            faultKind = 0;
            faultPlace = 0;
            at = 0;
        }

        private Token here() {
            return tape.tokens[at];
        }

        private int placeHere() {
            return tape.places[at];
        }

        private long wordHere() {
            return tape.words[at];
        }

        private void advance() {
            if (at < tape.count - 1) {
                at++;
            }
        }

        /**
         * Nothing can stand in the place of a TOKEN but one, so what is no TOKEN comes here always. Only the first FAULT
         * of 1 to 3 counts; reading then goes on at END, where all that reads comes to its end.
         */
        private void refuse(int fault) {
            if (!refused) {
                refused = true;
                faultKind = tape.tokens[at] == Token.NOTHING ? FAULT_NO_TOKEN : fault;
                faultPlace = tape.places[at];
            }
            at = tape.count - 1;
        }

        /** A FAULT of 4 to 6, some of which stand ahead of others that were found before them. */
        private void blame(int fault, int place) {
            boolean first = faultKind == 0 || place < faultPlace || place == faultPlace && fault < faultKind;
            if (!refused && first) {
                faultKind = fault;
                faultPlace = place;
            }
        }

        private boolean accept(Token token) {
            if (here() != token) {
                return false;
            }
            advance();
            return true;
        }

        private void expect(Token token) {
            if (here() == token) {
                advance();
            } else {
                refuse(FAULT_TOKEN);
            }
        }

        private void emit(Token op, int arg) {
            if (codeCount < TAPE) {
                ops[codeCount] = op;
                args[codeCount] = arg;
                codeCount++;
            }
        }

        private Piece addPart(Token kind) {
            Piece part = parts[Math.min(partCount, parts.length - 1)];
            partCount = Math.min(partCount + 1, parts.length);
            part.reset(kind);
            part.place = placeHere();
            return part;
        }

        private Piece addPiece(Token kind) {
            Piece piece = pieces[Math.min(pieceCount, pieces.length - 1)];
            pieceCount = Math.min(pieceCount + 1, pieces.length);
            piece.reset(kind);
            return piece;
        }

        private int findName(long word, int count) {
            for (int i = 0; i < count; i++) {
                if (names[i] == word) {
                    return i;
                }
            }
            return NONE;
        }

        /** The column of the NAME here, which must be KNOWN. */
        private int useName() {
            int column = findName(wordHere(), sight);
            if (column == NONE) {
                blame(FAULT_NAME, placeHere());
                return 0;
            }
            return column;
        }

        private int makeName(boolean byLink) {
            if (nameCount >= WIDTH) {
                blame(FAULT_NAME, placeHere());
                return 0;
            }
            names[nameCount] = wordHere();
            linked[nameCount] = byLink;
            nameCount++;
            return nameCount - 1;
        }

        /** The column of the NAME here, which a LINK or SHORTEST makes. */
        private int makeNewName() {
            if (findName(wordHere(), nameCount) != NONE) {
                blame(FAULT_NAME, placeHere());
                return 0;
            }
            return makeName(true);
        }

        private void startClause(Clause clause) {
            clause.reset(nameCount);
            sight = nameCount;
            for (int i = 0; i < WIDTH; i++) {
                linked[i] = false;
            }
            Token first = here();
            Token kind = first == Token.OPTIONAL ? Token.MATCH : first == Token.DETACH ? Token.DELETE : first;
            if (!kind.beginsClause()) {
                refuse(FAULT_TOKEN);
                return;
            }
            clause.kind = kind;
            clause.flag = kind != first;
            if (clause.flag) {
                advance();
            }
            expect(kind);
        }

        private void readWhere(Clause clause) {
            sight = nameCount;
            clause.whereFrom = codeCount;
            if (accept(Token.WHERE)) {
                readX(LEVEL_ANY, 0);
            }
            clause.whereTo = codeCount;
        }

        private void readPatterns(Clause clause) {
            boolean match = clause.kind == Token.MATCH;
            long size = 0;
            clause.partsFrom = partCount;
            for (int i = 0; i < TAPE; i++) {
                boolean shortest = match && here() == Token.NAME;
                size += shortest ? 2 : 1;
                judgeSize(match, size, placeHere());
                int column = shortest ? readShortest() : NONE;
                readEnds(clause);
                boolean more = shortest || beginsLink();
                for (int j = 0; more && j < TAPE; j++) {
                    Piece link = readLink(clause, shortest);
                    if (shortest) {
                        link.column = column;
                    } else {
                        size = Math.min(size + link.most, TAPE);
                        judgeSize(match, size, link.place);
                    }
                    readEnds(clause);
                    more = !shortest && beginsLink();
                }
                if (!accept(Token.COMMA)) {
                    break;
                }
            }
            clause.partsTo = partCount;
        }

        private boolean beginsLink() {
            return here() == Token.MINUS || here() == Token.LESS;
        }

        private void judgeSize(boolean match, long size, int place) {
            if (match && size > SIZE) {
                blame(FAULT_PATTERN, place);
            }
        }

        private int readShortest() {
            int column = makeNewName();
            expect(Token.NAME);
            expect(Token.EQUAL);
            expect(Token.SHORTEST);
            return column;
        }

        private void readEnds(Clause clause) {
            Piece ends = addPart(Token.OPEN);
            ends.flag = true;
            expect(Token.OPEN);
            if (here() == Token.NAME) {
                nameEnds(ends);
                advance();
            }
            ends.sortsFrom = pieceCount;
            for (int i = 0; i < TAPE && accept(Token.COLON); i++) {
                readSort();
            }
            ends.sortsTo = pieceCount;
            if (here() == Token.OPEN_KEYS) {
                readProperties(clause, ends);
            }
            expect(Token.CLOSE);
            boolean told = ends.countSorts() > 0 || ends.hasProperties();
            if (clause.kind == Token.CREATE && !ends.flag && told) {
                blame(FAULT_PATTERN, ends.place);
            }
        }

        private void nameEnds(Piece ends) {
            int column = findName(wordHere(), nameCount);
            if (column == NONE) {
                ends.column = makeName(false);
                return;
            }
            ends.column = column;
            ends.flag = false;
            if (linked[column]) {
                blame(FAULT_NAME, placeHere());
            }
        }

        private void readSort() {
            addPiece(Token.SORT).word = wordHere();
            expect(Token.SORT);
        }

        private void readProperties(Clause clause, Piece part) {
            sight = clause.ahead;
            expect(Token.OPEN_KEYS);
            part.propertiesFrom = pieceCount;
            for (int i = 0; i < TAPE; i++) {
                Piece property = addPiece(Token.NAME);
                property.word = wordHere();
                expect(Token.NAME);
                expect(Token.COLON);
                property.from = codeCount;
                readX(LEVEL_ANY, 0);
                property.to = codeCount;
                if (!accept(Token.COMMA)) {
                    break;
                }
            }
            part.propertiesTo = pieceCount;
            expect(Token.CLOSE_KEYS);
        }

        private Piece readLink(Clause clause, boolean shortest) {
            Piece link = addPart(shortest ? Token.SHORTEST : Token.MINUS);
            link.most = shortest ? LONGEST_WAY : 1;
            int star = NONE;
            boolean left = accept(Token.LESS);
            expect(Token.MINUS);
            if (accept(Token.OPEN_LINK)) {
                if (here() == Token.NAME) {
                    link.flag = true;
                    link.column = makeNewName();
                    advance();
                }
                readTypes(link);
                if (here() == Token.STAR) {
                    star = placeHere();
                    readLengths(link);
                }
                if (here() == Token.OPEN_KEYS) {
                    readProperties(clause, link);
                }
                expect(Token.CLOSE_LINK);
            }
            expect(Token.MINUS);
            boolean right = accept(Token.MORE);
            link.way = (left ? Piece.AGAINST : 0) + (right ? Piece.ALONG : 0);
            if (clause.kind == Token.CREATE) {
                judgeCreated(link, star);
            } else {
                judgeMatched(link, star);
            }
            return link;
        }

        private void readTypes(Piece link) {
            link.sortsFrom = pieceCount;
            if (accept(Token.COLON)) {
                readSort();
                for (int i = 0; i < TAPE && accept(Token.BAR); i++) {
                    readSort();
                }
            }
            link.sortsTo = pieceCount;
        }

        private void readLengths(Piece link) {
            expect(Token.STAR);
            link.least = readNumber();
            link.most = accept(Token.DOTS) ? readNumber() : link.least;
        }

        private long readNumber() {
            long number = here() == Token.NUMBER ? wordHere() : 0;
            expect(Token.NUMBER);
            return number;
        }

        private void judgeCreated(Piece link, int star) {
            boolean oneArrow = link.way == Piece.ALONG || link.way == Piece.AGAINST;
            if (link.countSorts() != 1 || star != NONE || !oneArrow) {
                blame(FAULT_PATTERN, link.place);
            }
        }

        private void judgeMatched(Piece link, int star) {
            boolean shortest = link.kind == Token.SHORTEST;
            boolean told = link.flag || link.hasProperties();
            if (link.way == Piece.TWO_ARROWS || shortest && told) {
                blame(FAULT_PATTERN, link.place);
            }
            long longest = shortest ? LONGEST_WAY : LONGEST_CHAIN;
            boolean fit = link.least >= 1 && link.least <= link.most && link.most <= longest;
            if (star != NONE && (told || !fit)) {
                blame(FAULT_PATTERN, star);
            }
        }

        private void readDeleted(Clause clause) {
            clause.piecesFrom = pieceCount;
            for (int i = 0; i < TAPE; i++) {
                readUsed();
                if (!accept(Token.COMMA)) {
                    break;
                }
            }
            clause.piecesTo = pieceCount;
        }

        /** A new piece about the NAME here, which must be KNOWN. */
        private Piece readUsed() {
            Piece piece = addPiece(Token.NAME);
            if (here() == Token.NAME) {
                piece.column = useName();
            }
            expect(Token.NAME);
            return piece;
        }

        private void readChanges(Clause clause) {
            clause.piecesFrom = pieceCount;
            for (int i = 0; i < TAPE; i++) {
                Piece change = readUsed();
                change.kind = here() == Token.COLON ? Token.COLON : Token.DOT;
                expect(change.kind);
                change.word = wordHere();
                expect(change.kind == Token.COLON ? Token.SORT : Token.NAME);
                if (clause.kind == Token.SET && change.kind == Token.DOT) {
                    expect(Token.EQUAL);
                    change.from = codeCount;
                    readX(LEVEL_ANY, 0);
                    change.to = codeCount;
                }
                if (!accept(Token.COMMA)) {
                    break;
                }
            }
            clause.piecesTo = pieceCount;
        }

        private void readResult(Clause clause) {
            clause.flag = accept(Token.DISTINCT);
            clause.piecesFrom = pieceCount;
            for (int i = 0; i <= ITEMS; i++) {
                if (i == ITEMS) {
                    refuse(FAULT_TOKEN);
                } else {
                    readItem(clause);
                }
                if (!accept(Token.COMMA)) {
                    break;
                }
            }
            clause.piecesTo = pieceCount;
            knowColumns(clause);
            if (accept(Token.ORDER)) {
                expect(Token.BY);
                readOrder(clause);
            }
            if (accept(Token.SKIP)) {
                clause.skip = readNumber();
            }
            if (accept(Token.LIMIT)) {
                clause.limit = readNumber();
            }
        }

        private void readItem(Clause clause) {
            int first = at;
            Piece item = addPiece(Token.NAME);
            if (here().isAggregate()) {
                readAggregate(item);
            } else {
                item.from = codeCount;
                readX(LEVEL_ANY, 0);
                item.to = codeCount;
            }
            boolean nameAlone = tape.tokens[first] == Token.NAME && at == first + 1;
            if (accept(Token.AS)) {
                nameColumn(clause, item, at);
                expect(Token.NAME);
            } else if (nameAlone) {
                nameColumn(clause, item, first);
            } else if (clause.kind == Token.WITH) {
                blame(FAULT_ITEM, tape.places[first]);
            }
        }

        private void readAggregate(Piece item) {
            item.kind = here();
            advance();
            expect(Token.OPEN);
            if (item.kind == Token.COUNT && accept(Token.STAR)) {
                item.kind = Token.STAR;
            } else {
                item.flag = accept(Token.DISTINCT);
                item.from = codeCount;
                readX(LEVEL_ANY, 1);
                item.to = codeCount;
            }
            expect(Token.CLOSE);
        }

        private void nameColumn(Clause clause, Piece item, int token) {
            item.word = tape.words[token];
            for (int i = clause.piecesFrom; i < pieceCount - 1; i++) {
                if (pieces[i].word == item.word) {
                    blame(FAULT_NAME, tape.places[token]);
                }
            }
        }

        private void knowColumns(Clause clause) {
            nameCount = Math.min(clause.countPieces(), WIDTH);
            for (int i = 0; i < nameCount; i++) {
                names[i] = pieces[clause.piecesFrom + i].word;
            }
            sight = nameCount;
        }

        private void readOrder(Clause clause) {
            clause.orderFrom = pieceCount;
            for (int i = 0; i <= ORDERS; i++) {
                if (i == ORDERS) {
                    refuse(FAULT_TOKEN);
                } else {
                    Piece order = addPiece(Token.ORDER);
                    order.from = codeCount;
                    readX(LEVEL_ANY, 0);
                    order.to = codeCount;
                    order.flag = accept(Token.DESC);
                }
                if (!accept(Token.COMMA)) {
                    break;
                }
            }
            clause.orderTo = pieceCount;
        }

        /** An X of signs that bind at least as strongly as the level, within so many as depth tells. */
        private void readX(int level, int depth) {
            if (depth >= DEEPEST) {
                refuse(FAULT_DEEP);
            }
            int strongest = LEVEL_TIMES;
            if (here() == Token.NOT && level <= LEVEL_NOT) {
                advance();
                readX(LEVEL_NOT, depth + 1);
                emit(Token.NOT, 0);
                strongest = LEVEL_NOT;
            } else if (here() == Token.MINUS) {
                advance();
                readX(LEVEL_AHEAD, depth + 1);
                emit(Token.NEGATE, 0);
            } else {
                readOperand(depth);
            }
            for (int i = 0; i < TAPE; i++) {
                Token sign = here();
                if (sign.level < level || sign.level > strongest) {
                    return;
                }
                advance();
                if (sign == Token.IS) {
                    emit(Token.IS, accept(Token.NOT) ? 0 : 1);
                    expect(Token.NULL);
                } else {
                    readX(sign.level + 1, depth);
                    emit(sign, 0);
                }
                strongest = sign.level == LEVEL_COMPARE ? LEVEL_NOT : sign.level;
            }
        }

        private void readOperand(int depth) {
            Token first = here();
            switch (first) {
                case NUMBER:
                case TEXT:
                case TRUE:
                case FALSE:
                case NULL:
                    emit(first, at);
                    advance();
                    break;
                case NAME:
                    emit(Token.NAME, useName());
                    advance();
                    if (accept(Token.DOT)) {
                        emit(Token.DOT, at);
                        expect(Token.NAME);
                    } else if (accept(Token.COLON)) {
                        emit(Token.COLON, at);
                        expect(Token.SORT);
                    }
                    break;
                case OPEN:
                    advance();
                    readX(LEVEL_ANY, depth + 1);
                    expect(Token.CLOSE);
                    break;
                case ID:
                case TYPE:
                case SIZE:
                case DEGREE:
                case COALESCE:
                    advance();
                    expect(Token.OPEN);
                    readX(LEVEL_ANY, depth + 1);
                    if (first == Token.COALESCE) {
                        expect(Token.COMMA);
                        readX(LEVEL_ANY, depth + 1);
                    }
                    expect(Token.CLOSE);
                    emit(first, 0);
                    break;
                default:
                    refuse(FAULT_TOKEN);
                    break;
            }
        }
    }

    /** THE GRAPH: NODES are the things 0 .. 63, RELATIONSHIPS the things from 64 on. */
    private static final class Graph {
        private static final int FREE = 0;
        private static final int THERE = 1;
        private static final int GONE = 2;

        private final int[] status = new int[THINGS];
        final int[] starts = new int[RELATIONSHIPS];
        final int[] ends = new int[RELATIONSHIPS];
        /* LABELS, 0 where there is none; a RELATIONSHIP's TYPE is its only one. */
        private final long[] sorts = new long[THINGS * LABELS];
        private final long[] keys = new long[THINGS * PROPERTIES];
        final Cells values = new Cells(THINGS * PROPERTIES);
        /* CHANGES of the TRANSACTION: they come and go with what they changed. */
        int changes;

        void copyFrom(Graph other) {
            System.arraycopy(other.status, 0, status, 0, THINGS);
            System.arraycopy(other.starts, 0, starts, 0, RELATIONSHIPS);
            System.arraycopy(other.ends, 0, ends, 0, RELATIONSHIPS);
            System.arraycopy(other.sorts, 0, sorts, 0, THINGS * LABELS);
            System.arraycopy(other.keys, 0, keys, 0, THINGS * PROPERTIES);
            System.arraycopy(other.values.words, 0, values.words, 0, THINGS * PROPERTIES * 4);
            changes = other.changes;
        }

        void forgetGone() {
            for (int thing = 0; thing < THINGS; thing++) {
                if (status[thing] == GONE) {
                    status[thing] = FREE;
                }
            }
        }

        boolean isThere(int thing) {
            return status[thing] == THERE;
        }

        boolean isGone(int thing) {
            return status[thing] == GONE;
        }

        int countThings(int from, int to) {
            int count = 0;
            for (int thing = from; thing < to; thing++) {
                if (status[thing] == THERE) {
                    count++;
                }
            }
            return count;
        }

        int findFree(int from, int to) {
            for (int thing = from; thing < to; thing++) {
                if (status[thing] == FREE) {
                    return thing;
                }
            }
            return NONE;
        }

        void make(int thing) {
            status[thing] = THERE;
            for (int i = 0; i < LABELS; i++) {
                sorts[thing * LABELS + i] = 0;
            }
            for (int i = 0; i < PROPERTIES; i++) {
                keys[thing * PROPERTIES + i] = 0;
            }
        }

        void takeAway(int thing) {
            status[thing] = GONE;
        }

        boolean joins(int r, int node) {
            return status[NODES + r] == THERE && (starts[r] == node || ends[r] == node);
        }

        int degree(int node) {
            int count = 0;
            for (int r = 0; r < RELATIONSHIPS; r++) {
                if (joins(r, node)) {
                    count++;
                }
            }
            return count;
        }

        /** How many RELATIONSHIPS have the node among these, their starts or ends. */
        int countJoined(int[] side, int node) {
            int count = 0;
            for (int r = 0; r < RELATIONSHIPS; r++) {
                if (status[NODES + r] == THERE && side[r] == node) {
                    count++;
                }
            }
            return count;
        }

        private static int countWords(long[] words, int from, int to) {
            int count = 0;
            for (int i = from; i < to; i++) {
                if (words[i] != 0) {
                    count++;
                }
            }
            return count;
        }

        boolean hasSort(int thing, long sort) {
            return findSort(thing, sort) != NONE;
        }

        /** Where the thing has this SORT; sort 0 finds room for one. */
        int findSort(int thing, long sort) {
            for (int slot = thing * LABELS; slot < (thing + 1) * LABELS; slot++) {
                if (sorts[slot] == sort) {
                    return slot;
                }
            }
            return NONE;
        }

        void putSort(int slot, long sort) {
            sorts[slot] = sort;
        }

        int countSorts(int thing) {
            return countWords(sorts, thing * LABELS, (thing + 1) * LABELS);
        }

        void putType(int thing, long type) {
            sorts[thing * LABELS] = type;
        }

        long typeOf(int thing) {
            return sorts[thing * LABELS];
        }

        /** Where the thing has a PROPERTY of this KEY; key 0 finds room for one. */
        int findKey(int thing, long key) {
            for (int slot = thing * PROPERTIES; slot < (thing + 1) * PROPERTIES; slot++) {
                if (keys[slot] == key) {
                    return slot;
                }
            }
            return NONE;
        }

        void putKey(int slot, long key) {
            keys[slot] = key;
        }

        int countProperties(int thing) {
            return countWords(keys, thing * PROPERTIES, (thing + 1) * PROPERTIES);
        }
    }

    /** Looks at X for the ROW that is gone over, counts WORK and ends statements by ERRORS. */
    private static final class Machine {
        private static final int FALSE = 0;
        private static final int TRUE = 1;
        private static final int EITHER = 2;

        private final Statement statement;
        private final Graph graph;
        Cells now = new Cells(ROWS * WIDTH);
        Cells next = new Cells(ROWS * WIDTH);
        /* Of a MATCH: the old ROW of each ROW that it made. */
        final int[] origins = new int[ROWS];
        /* As high as there can be TOKENS, none of which puts more than one VALUE there. */
        final Cells stack = new Cells(TAPE + 1);
        private int top;
        int row;
        int work;
        int error;

        Machine(Statement statement, Graph graph) {
            this.statement = statement;
            this.graph = graph;
        }

        void fail(int newError) {
            error = newError;
            throw new ArithmeticException();
        }

        void countWork() {
            if (work >= MOST_WORK) {
                fail(ERROR_WORK);
            }
            work++;
        }

        void goTo(int newRow) {
            countWork();
            row = newRow;
        }

        void swap() {
            Cells old = now;
            now = next;
            next = old;
        }

        int cellOf(int column) {
            return row * WIDTH + column;
        }

        /** Drops the ROWS for which WHERE is not TRUE, if there is one. */
        void keepTrue(Clause clause) {
            if (clause.whereFrom == clause.whereTo) {
                return;
            }
            int left = 0;
            for (int i = 0; i < now.rows; i++) {
                row = i;
                look(clause.whereFrom, clause.whereTo);
                if (stack.kindAt(0) == TRUTH && stack.longAt(0) == 1) {
                    now.copyRow(left, now, i);
                    origins[left] = origins[i];
                    left++;
                }
            }
            now.rows = left;
        }

        /** The VALUE of an X comes to lie lowest on the stack. */
        void look(int from, int to) {
            top = 0;
            for (int i = from; i < to; i++) {
                Token op = statement.ops[i];
                int arg = statement.args[i];
                switch (op) {
                    case DOT:
                        lookUpProperty(top - 1, statement.tape.words[arg]);
                        break;
                    case COLON:
                        lookUpSort(top - 1, statement.tape.words[arg]);
                        break;
                    case ID:
                    case TYPE:
                    case SIZE:
                    case DEGREE:
                        ask(op, top - 1);
                        break;
                    case NOT:
                    case NEGATE:
                    case IS:
                        turn(op, arg, top - 1);
                        break;
                    case AND:
                    case OR:
                    case XOR:
                        top--;
                        reason(op, top - 1, top);
                        break;
                    case EQUAL:
                    case UNEQUAL:
                    case LESS:
                    case AT_MOST:
                    case MORE:
                    case AT_LEAST:
                        top--;
                        compare(op, top - 1, top);
                        break;
                    case PLUS:
                    case MINUS:
                    case STAR:
                    case SLASH:
                    case PERCENT:
                    case COALESCE:
                        top--;
                        join(op, top - 1, top);
                        break;
                    default:
                        push(op, arg);
                        break;
                }
            }
        }

        private void push(Token op, int arg) {
            if (op == Token.NAME) {
                stack.copy(top, now, cellOf(arg));
            } else if (op == Token.NUMBER || op == Token.TEXT) {
                stack.copy(top, statement.tape.values, arg);
            } else if (op == Token.NULL) {
                stack.put(top, NULL, 0);
            } else {
                stack.put(top, TRUTH, op == Token.TRUE ? 1 : 0);
            }
            top++;
        }

        private void lookUpProperty(int cell, long key) {
            int kind = stack.kindAt(cell);
            if (kind == NULL) {
                return;
            }
            if (kind < NODE) {
                fail(ERROR_KIND);
            }
            int thing = stack.thingAt(cell);
            refuseGone(thing);
            int slot = graph.findKey(thing, key);
            if (slot == NONE) {
                stack.put(cell, NULL, 0);
            } else {
                stack.copy(cell, graph.values, slot);
            }
        }

        private void lookUpSort(int cell, long sort) {
            int kind = stack.kindAt(cell);
            if (kind == NULL) {
                return;
            }
            if (kind < NODE) {
                fail(ERROR_KIND);
            }
            int thing = stack.thingAt(cell);
            refuseGone(thing);
            stack.put(cell, TRUTH, graph.hasSort(thing, sort) ? 1 : 0);
        }

        void refuseGone(int thing) {
            if (graph.isGone(thing)) {
                fail(ERROR_GONE);
            }
        }

        private void ask(Token op, int cell) {
            int kind = stack.kindAt(cell);
            if (kind == NULL) {
                return;
            }
            boolean fit = op == Token.ID ? kind >= NODE
                    : op == Token.TYPE ? kind == RELATIONSHIP
                    : op == Token.SIZE ? kind == TEXT : kind == NODE;
            if (!fit) {
                fail(ERROR_KIND);
            }
            if (op == Token.ID) {
                stack.put(cell, NUMBER, stack.longAt(cell));
            } else if (op == Token.SIZE) {
                stack.put(cell, NUMBER, stack.sizeAt(cell));
            } else {
                int thing = stack.thingAt(cell);
                refuseGone(thing);
                if (op == Token.TYPE) {
                    stack.put(cell, TEXT, graph.typeOf(thing));
                } else {
                    stack.put(cell, NUMBER, graph.degree(thing));
                }
            }
        }

        private int truthAt(int cell) {
            int kind = stack.kindAt(cell);
            if (kind == NULL) {
                return EITHER;
            }
            if (kind != TRUTH) {
                fail(ERROR_KIND);
            }
            return (int) stack.longAt(cell);
        }

        private void putTruth(int cell, int truth) {
            stack.put(cell, truth == EITHER ? NULL : TRUTH, truth == TRUE ? 1 : 0);
        }

        private void reason(Token op, int left, int right) {
            int a = truthAt(left);
            int b = truthAt(right);
            int settles = op == Token.AND ? FALSE : TRUE;
            if (op != Token.XOR && (a == settles || b == settles)) {
                putTruth(left, settles);
            } else if (a == EITHER || b == EITHER) {
                putTruth(left, EITHER);
            } else {
                putTruth(left, op == Token.XOR ? a ^ b : TRUE - settles);
            }
        }

        private void compare(Token op, int left, int right) {
            int a = stack.kindAt(left);
            int b = stack.kindAt(right);
            boolean equality = op == Token.EQUAL || op == Token.UNEQUAL;
            boolean ordered = a == b && (a == NUMBER || a == TEXT);
            if (a == NULL || b == NULL || !equality && !ordered) {
                stack.put(left, NULL, 0);
                return;
            }
            int order = stack.compare(left, stack, right);
            boolean holds = op == Token.EQUAL ? order == 0
                    : op == Token.UNEQUAL ? order != 0
                    : op == Token.LESS ? order < 0
                    : op == Token.AT_MOST ? order <= 0
                    : op == Token.MORE ? order > 0 : order >= 0;
            stack.put(left, TRUTH, holds ? 1 : 0);
        }

        private void turn(Token op, int arg, int cell) {
            if (op == Token.IS) {
                boolean isNull = stack.kindAt(cell) == NULL;
                stack.put(cell, TRUTH, isNull == (arg == 1) ? 1 : 0);
            } else if (op == Token.NOT) {
                int truth = truthAt(cell);
                putTruth(cell, truth == EITHER ? EITHER : TRUE - truth);
            } else {
                negate(cell);
            }
        }

        private void negate(int cell) {
            int kind = stack.kindAt(cell);
            if (kind == NULL) {
                return;
            }
            if (kind != NUMBER) {
                fail(ERROR_KIND);
            }
            if (stack.longAt(cell) == Long.MIN_VALUE) {
                fail(ERROR_BEYOND);
            }
            stack.put(cell, NUMBER, -stack.longAt(cell));
        }

        private void join(Token op, int left, int right) {
            int a = stack.kindAt(left);
            int b = stack.kindAt(right);
            if (op == Token.COALESCE) {
                if (a == NULL) {
                    stack.copy(left, stack, right);
                }
            } else if (a == NULL || b == NULL) {
                stack.put(left, NULL, 0);
            } else if (op == Token.PLUS && a == TEXT && b == TEXT) {
                putTogether(left, right);
            } else if (a != NUMBER || b != NUMBER) {
                fail(ERROR_KIND);
            } else {
                reckon(op, left, right);
            }
        }

        private void putTogether(int left, int right) {
            int size = stack.sizeAt(left);
            int more = stack.sizeAt(right);
            if (size + more > LONGEST_TEXT) {
                fail(ERROR_TEXT);
            }
            for (int i = 0; i < more && size + i < LONGEST_TEXT; i++) {
                stack.putCharacter(left, size + i, stack.characterAt(right, i));
            }
        }

        private void reckon(Token op, int left, int right) {
            long a = stack.longAt(left);
            long b = stack.longAt(right);
            boolean divides = op == Token.SLASH || op == Token.PERCENT;
            if (divides && b == 0) {
                fail(ERROR_ZERO);
                return;
            }
            if (isBeyond(op, a, b)) {
                fail(ERROR_BEYOND);
            }
            long result = op == Token.PLUS ? a + b
                    : op == Token.MINUS ? a - b
                    : op == Token.STAR ? a * b
                    : op == Token.SLASH ? a / b : a % b;
            stack.put(left, NUMBER, result);
        }

        /** Whether the result, wrapped round, is not the true one. */
        static boolean isBeyond(Token op, long a, long b) {
            boolean turned = a == Long.MIN_VALUE && b == -1;
            if (op == Token.PLUS) {
                return ((a ^ (a + b)) & (b ^ (a + b))) < 0;
            }
            if (op == Token.MINUS) {
                return ((a ^ b) & (a ^ (a - b))) < 0;
            }
            if (op == Token.STAR) {
                return turned || b != 0 && a * b / b != a;
            }
            return op == Token.SLASH && turned;
        }
    }

    /** Finds the ways of a MATCH. Its parts are numbered from 0 on, from left to right. */
    private static final class Matcher {
        /* A MATCH of SIZE 4 has at most 7 parts. */
        private static final int PARTS = 8;
        private static final int LENGTHS = 10;

        private final Statement statement;
        private final Graph graph;
        private final Machine machine;
        private Clause clause;
        private int count;
        /* What the X of PROPERTIES are for the old ROW, by piece. */
        private final Cells asked = new Cells(TAPE / 2);
        /* The NODES that each ENDS may have, a bit for each. */
        private final long[] fitNodes = new long[PARTS];
        private final int[][] fitLinks = new int[PARTS][RELATIONSHIPS];
        private final int[] fitLinkCounts = new int[PARTS];
        /* Of a LINK: NODES from which its second ENDS can be come to in so many steps;
           of SHORTEST: NODES that are so far from its first ENDS. */
        private final long[][] steps = new long[PARTS][LENGTHS];
        private final int[] chosen = new int[PARTS];
        private final int[] bound = new int[WIDTH];
        private final byte[] used = new byte[RELATIONSHIPS];

        Matcher(Statement statement, Graph graph, Machine machine) {
            this.statement = statement;
            this.graph = graph;
            this.machine = machine;
        }

        void match(Clause newClause) {
            clause = newClause;
            count = Math.min(clause.partsTo - clause.partsFrom, PARTS);
            int oldRows = machine.now.rows;
            machine.next.rows = 0;
            for (int row = 0; row < oldRows; row++) {
                machine.row = row;
                lookAhead();
                if (prepare()) {
                    Arrays.fill(bound, NONE);
                    Arrays.fill(used, (byte) 0);
                    goOn(0);
                }
            }
            machine.swap();
            machine.keepTrue(clause);
            if (clause.flag) {
                addUnmatched(oldRows);
            }
        }

        private Piece part(int i) {
            return statement.parts[clause.partsFrom + i];
        }

        private boolean isEnds(int i) {
            return part(i).kind == Token.OPEN;
        }

        /** All that may come to an ERROR ahead of the ways of a ROW. */
        private void lookAhead() {
            for (int i = 0; i < count; i++) {
                Piece part = part(i);
                if (isKnown(part)) {
                    int cell = machine.cellOf(part.column);
                    if (machine.now.kindAt(cell) >= NODE) {
                        machine.refuseGone(machine.now.thingAt(cell));
                    }
                }
                for (int p = part.propertiesFrom; p < part.propertiesTo; p++) {
                    machine.look(statement.pieces[p].from, statement.pieces[p].to);
                    asked.copy(p, machine.stack, 0);
                }
            }
        }

        private boolean isKnown(Piece part) {
            return part.column != NONE && part.column < clause.ahead;
        }

        /** From right to left: leaves to each part what the parts behind it can follow; whether there may be a way. */
        private boolean prepare() {
            boolean some = true;
            for (int i = count - 1; i >= 0; i--) {
                if (isEnds(i)) {
                    findNodes(i);
                    some = some && fitNodes[i] != 0;
                } else {
                    findLinks(i);
                    if (part(i).kind == Token.MINUS) {
                        stepBack(i);
                    }
                }
            }
            return some;
        }

        private void findNodes(int i) {
            Piece ends = part(i);
            long fit = 0;
            for (int node = 0; node < NODES; node++) {
                if (fitsNode(ends, node)) {
                    fit |= 1L << node;
                }
            }
            if (i + 1 < count && part(i + 1).kind == Token.MINUS) {
                fit &= startsOf(i + 1);
            }
            fitNodes[i] = fit;
        }

        private boolean fitsNode(Piece ends, int node) {
            if (!graph.isThere(node)) {
                return false;
            }
            if (isKnown(ends)) {
                int cell = machine.cellOf(ends.column);
                if (machine.now.kindAt(cell) != NODE || machine.now.longAt(cell) != node) {
                    return false;
                }
            }
            for (int s = ends.sortsFrom; s < ends.sortsTo; s++) {
                if (!graph.hasSort(node, statement.pieces[s].word)) {
                    return false;
                }
            }
            return fitsProperties(ends, node);
        }

        private boolean fitsProperties(Piece part, int thing) {
            for (int p = part.propertiesFrom; p < part.propertiesTo; p++) {
                int slot = graph.findKey(thing, statement.pieces[p].word);
                if (slot == NONE || !graph.values.alike(slot, asked, p)) {
                    return false;
                }
            }
            return true;
        }

        private void findLinks(int i) {
            Piece link = part(i);
            int found = 0;
            for (int r = 0; r < RELATIONSHIPS; r++) {
                if (graph.isThere(NODES + r) && hasType(link, r) && fitsProperties(link, NODES + r)) {
                    fitLinks[i][found] = r;
                    found++;
                }
            }
            fitLinkCounts[i] = found;
        }

        private boolean hasType(Piece link, int r) {
            for (int s = link.sortsFrom; s < link.sortsTo; s++) {
                if (graph.hasSort(NODES + r, statement.pieces[s].word)) {
                    return true;
                }
            }
            return link.countSorts() == 0;
        }

        private void stepBack(int i) {
            int way = part(i).way;
            int back = way == Piece.ALONG ? Piece.AGAINST : way == Piece.AGAINST ? Piece.ALONG : way;
            steps[i][0] = fitNodes[i + 1];
            for (int length = 1; length <= part(i).most && length < LENGTHS; length++) {
                steps[i][length] = step(i, steps[i][length - 1], back);
            }
        }

        private long startsOf(int i) {
            long starts = 0;
            for (int length = (int) part(i).least; length <= part(i).most && length < LENGTHS; length++) {
                starts |= steps[i][length];
            }
            return starts;
        }

        /** The NODES next to these, by the RELATIONSHIPS that LINK i may have. */
        private long step(int i, long nodes, int way) {
            long found = 0;
            for (int k = 0; k < fitLinkCounts[i]; k++) {
                long start = 1L << graph.starts[fitLinks[i][k]];
                long end = 1L << graph.ends[fitLinks[i][k]];
                if (way != Piece.AGAINST && (nodes & start) != 0) {
                    found |= end;
                }
                if (way != Piece.ALONG && (nodes & end) != 0) {
                    found |= start;
                }
            }
            return found;
        }

        /** All ways for part i and those behind it; those ahead of it are chosen. */
        private void goOn(int i) {
            if (i >= count) {
                makeRow();
            } else if (isEnds(i)) {
                for (int node = 0; node < NODES; node++) {
                    choose(i, node);
                }
            } else if (part(i).kind == Token.SHORTEST) {
                goFar(i);
            } else {
                for (int length = (int) part(i).least; length <= part(i).most && length < LENGTHS; length++) {
                    goAlong(i, chosen[i - 1], length);
                }
            }
        }

        private void choose(int i, int node) {
            int column = part(i).column;
            int old = column == NONE ? NONE : bound[column];
            if ((fitNodes[i] >>> node & 1) == 0 || old != NONE && old != node) {
                return;
            }
            chosen[i] = node;
            if (column != NONE) {
                bound[column] = node;
            }
            goOn(i + 1);
            if (column != NONE) {
                bound[column] = old;
            }
        }

        private void goAlong(int i, int node, int length) {
            for (int k = 0; k < fitLinkCounts[i]; k++) {
                int r = fitLinks[i][k];
                int other = otherEnd(r, node, part(i).way);
                if (used[r] == 0 && other != NONE && (steps[i][length - 1] >>> other & 1) != 0) {
                    used[r] = 1;
                    if (length > 1) {
                        goAlong(i, other, length - 1);
                    } else {
                        chosen[i] = r;
                        choose(i + 1, other);
                    }
                    used[r] = 0;
                }
            }
        }

        private int otherEnd(int r, int node, int way) {
            if (way != Piece.AGAINST && graph.starts[r] == node) {
                return graph.ends[r];
            }
            return way != Piece.ALONG && graph.ends[r] == node ? graph.starts[r] : NONE;
        }

        private void goFar(int i) {
            Piece link = part(i);
            long seen = 1L << chosen[i - 1];
            steps[i][0] = seen;
            for (int length = 1; length <= link.most && length < LENGTHS; length++) {
                steps[i][length] = step(i, steps[i][length - 1], link.way) & ~seen;
                seen |= steps[i][length];
            }
            for (int node = 0; node < NODES; node++) {
                for (int length = (int) link.least; length <= link.most && length < LENGTHS; length++) {
                    if ((steps[i][length] >>> node & 1) != 0) {
                        chosen[i] = length;
                        choose(i + 1, node);
                    }
                }
            }
        }

        private void makeRow() {
            Cells made = machine.next;
            if (made.rows >= ROWS) {
                machine.fail(ERROR_ROWS);
                return;
            }
            machine.countWork();
            made.copyRow(made.rows, machine.now, machine.row);
            for (int i = 0; i < count; i++) {
                Piece part = part(i);
                if (part.column != NONE && !isKnown(part)) {
                    int kind = isEnds(i) ? NODE : part.kind == Token.SHORTEST ? NUMBER : RELATIONSHIP;
                    made.put(made.rows * WIDTH + part.column, kind, chosen[i]);
                }
            }
            machine.origins[made.rows] = machine.row;
            made.rows++;
        }

        /** From the last ROW on, so that each one moves to a place that is free already. */
        private void addUnmatched(int oldRows) {
            Cells rows = machine.now;
            int from = rows.rows - 1;
            int to = rows.rows + countUnmatched(oldRows) - 1;
            if (to >= ROWS) {
                machine.fail(ERROR_ROWS);
                return;
            }
            rows.rows = to + 1;
            for (int old = oldRows - 1; old >= 0; old--) {
                boolean matched = false;
                while (from >= 0 && machine.origins[from] == old) {
                    rows.copyRow(to, rows, from);
                    matched = true;
                    from--;
                    to--;
                }
                if (!matched) {
                    rows.copyRow(to, machine.next, old);
                    for (int column = clause.ahead; column < clause.known; column++) {
                        rows.put(to * WIDTH + column, NULL, 0);
                    }
                    to--;
                }
            }
        }

        private int countUnmatched(int oldRows) {
            int matched = 0;
            for (int row = 0; row < machine.now.rows; row++) {
                if (row == 0 || machine.origins[row] != machine.origins[row - 1]) {
                    matched++;
                }
            }
            return oldRows - matched;
        }
    }

    /** Does WITH and RETURN. */
    private static final class Gatherer {
        private static final int ORDERS = 3;

        private final Statement statement;
        private final Machine machine;
        private Clause clause;
        private int width;
        /* What the X of ITEMS were for each ROW. */
        private final Cells taken = new Cells(ROWS * WIDTH);
        private final int[] groups = new int[ROWS];
        private final Cells orderKeys = new Cells(ROWS * ORDERS);
        private final int[] order = new int[ROWS];

        Gatherer(Statement statement, Machine machine) {
            this.statement = statement;
            this.machine = machine;
        }

        void gather(Clause newClause) {
            clause = newClause;
            width = clause.countPieces();
            int aggregates = countAggregates();
            machine.next.rows = 0;
            if (aggregates > 0 && aggregates == width) {
                startGroup();
            }
            for (int row = 0; row < machine.now.rows; row++) {
                machine.goTo(row);
                lookAtItems();
                if (aggregates > 0) {
                    takeInRow();
                } else {
                    machine.next.copyRow(row, taken, row);
                    machine.next.rows = row + 1;
                }
            }
            machine.swap();
            if (clause.flag) {
                dropAlike();
            }
            if (clause.orderTo > clause.orderFrom) {
                putInOrder();
            }
            dropOutside();
            machine.keepTrue(clause);
        }

        private Piece item(int column) {
            return statement.pieces[clause.piecesFrom + column];
        }

        private boolean isAggregate(int column) {
            return item(column).kind != Token.NAME;
        }

        private int countAggregates() {
            int count = 0;
            for (int column = 0; column < width; column++) {
                if (isAggregate(column)) {
                    count++;
                }
            }
            return count;
        }

        private void lookAtItems() {
            for (int column = 0; column < width; column++) {
                Piece item = item(column);
                if (item.kind != Token.STAR) {
                    machine.look(item.from, item.to);
                    taken.copy(machine.cellOf(column), machine.stack, 0);
                }
            }
        }

        private void takeInRow() {
            int group = findGroup();
            groups[machine.row] = group;
            for (int column = 0; column < width; column++) {
                if (isAggregate(column)) {
                    takeIn(group, column);
                }
            }
        }

        private int findGroup() {
            for (int group = 0; group < machine.next.rows; group++) {
                if (belongs(group)) {
                    return group;
                }
            }
            return startGroup();
        }

        private boolean belongs(int group) {
            for (int column = 0; column < width; column++) {
                boolean same = machine.next.alike(group * WIDTH + column, taken, machine.cellOf(column));
                if (!isAggregate(column) && !same) {
                    return false;
                }
            }
            return true;
        }

        private int startGroup() {
            int group = machine.next.rows;
            machine.next.rows++;
            for (int column = 0; column < width; column++) {
                Token kind = item(column).kind;
                int cell = group * WIDTH + column;
                if (kind == Token.NAME) {
                    machine.next.copy(cell, taken, machine.cellOf(column));
                } else {
                    boolean picks = kind == Token.MIN || kind == Token.MAX;
                    machine.next.put(cell, picks ? NULL : NUMBER, 0);
                }
            }
            return group;
        }

        private void takeIn(int group, int column) {
            Token kind = item(column).kind;
            Cells groupRows = machine.next;
            int into = group * WIDTH + column;
            int from = machine.cellOf(column);
            boolean counts = kind == Token.STAR || kind == Token.COUNT;
            if (kind != Token.STAR && (taken.kindAt(from) == NULL || isRepeated(group, column))) {
                return;
            }
            if (counts) {
                groupRows.put(into, NUMBER, groupRows.longAt(into) + 1);
            } else if (kind == Token.SUM) {
                addTo(into, from);
            } else {
                int order = taken.compare(from, groupRows, into);
                boolean first = groupRows.kindAt(into) == NULL;
                if (first || kind == Token.MIN && order < 0 || kind == Token.MAX && order > 0) {
                    groupRows.copy(into, taken, from);
                }
            }
        }

        private void addTo(int into, int from) {
            if (taken.kindAt(from) != NUMBER) {
                machine.fail(ERROR_KIND);
            }
            long sum = machine.next.longAt(into);
            long more = taken.longAt(from);
            if (Machine.isBeyond(Token.PLUS, sum, more)) {
                machine.fail(ERROR_BEYOND);
            }
            machine.next.put(into, NUMBER, sum + more);
        }

        private boolean isRepeated(int group, int column) {
            if (!item(column).flag) {
                return false;
            }
            for (int row = 0; row < machine.row; row++) {
                boolean same = taken.alike(row * WIDTH + column, taken, machine.cellOf(column));
                if (groups[row] == group && same) {
                    return true;
                }
            }
            return false;
        }

        private void dropAlike() {
            Cells rows = machine.now;
            int left = 0;
            for (int row = 0; row < rows.rows; row++) {
                boolean isNew = true;
                for (int other = 0; other < left && isNew; other++) {
                    isNew = !areAlike(row, other);
                }
                if (isNew) {
                    rows.copyRow(left, rows, row);
                    left++;
                }
            }
            rows.rows = left;
        }

        private boolean areAlike(int row, int other) {
            for (int column = 0; column < width; column++) {
                if (!machine.now.alike(row * WIDTH + column, machine.now, other * WIDTH + column)) {
                    return false;
                }
            }
            return true;
        }

        private void putInOrder() {
            int count = machine.now.rows;
            for (int row = 0; row < count; row++) {
                machine.row = row;
                for (int p = clause.orderFrom; p < clause.orderTo; p++) {
                    machine.look(statement.pieces[p].from, statement.pieces[p].to);
                    orderKeys.copy(row * ORDERS + p - clause.orderFrom, machine.stack, 0);
                }
            }
            for (int row = 0; row < count; row++) {
                int place = row;
                while (place > 0 && isBehind(order[place - 1], row)) {
                    order[place] = order[place - 1];
                    place--;
                }
                order[place] = row;
            }
            for (int place = 0; place < count; place++) {
                machine.next.copyRow(place, machine.now, order[place]);
            }
            machine.next.rows = count;
            machine.swap();
        }

        private boolean isBehind(int row, int other) {
            for (int p = clause.orderFrom; p < clause.orderTo; p++) {
                int k = p - clause.orderFrom;
                int result = orderKeys.compare(row * ORDERS + k, orderKeys, other * ORDERS + k);
                if (result != 0) {
                    return statement.pieces[p].flag ? result < 0 : result > 0;
                }
            }
            return false;
        }

        private void dropOutside() {
            Cells rows = machine.now;
            int skip = (int) Math.min(clause.skip, rows.rows);
            int left = (int) Math.min(clause.limit, rows.rows - skip);
            for (int row = 0; row < left; row++) {
                rows.copyRow(row, rows, row + skip);
            }
            rows.rows = left;
        }
    }

    /** Does a STATEMENT, CLAUSE by CLAUSE; those that change the graph by itself. */
    private static final class Doer {
        private final Statement statement;
        private final Graph graph;
        private final Machine machine;
        private final Matcher matcher;
        private final Gatherer gatherer;
        private final byte[] doomed = new byte[THINGS];
        int clauseNumber;

        Doer(Statement statement, Graph graph, Machine machine) {
            this.statement = statement;
            this.graph = graph;
            this.machine = machine;
            matcher = new Matcher(statement, graph, machine);
            gatherer = new Gatherer(statement, machine);
        }

        /** The ERROR that came up; 0 if none did. */
        int perform() {
            machine.now.rows = 1;
            try {
                for (int i = 0; i < statement.clauseCount; i++) {
                    Clause clause = statement.clauses[i];
                    clauseNumber = i;
                    switch (clause.kind) {
                        case MATCH:
                            matcher.match(clause);
                            break;
                        case CREATE:
                            create(clause);
                            break;
                        case DELETE:
                            delete(clause);
                            break;
                        case SET:
                        case REMOVE:
                            changeThings(clause);
                            break;
                        default:
                            gatherer.gather(clause);
                            break;
                    }
                }
                return 0;
            } catch (ArithmeticException e) {
                return machine.error;
            }
        }

        private void create(Clause clause) {
            for (int row = 0; row < machine.now.rows; row++) {
                machine.goTo(row);
                int last = NONE;
                for (int i = clause.partsFrom; i < clause.partsTo; i++) {
                    Piece ends = statement.parts[i];
                    if (ends.kind != Token.OPEN) {
                        continue;
                    }
                    int node = ends.flag ? makeThing(0, NODES) : knownNode(ends);
                    if (ends.flag) {
                        furnish(node, ends);
                    }
                    if (i > clause.partsFrom && statement.parts[i - 1].kind == Token.MINUS) {
                        Piece link = statement.parts[i - 1];
                        furnish(makeRelationship(link, last, node), link);
                    }
                    last = node;
                }
            }
        }

        private int knownNode(Piece ends) {
            int cell = machine.cellOf(ends.column);
            if (machine.now.kindAt(cell) != NODE) {
                machine.fail(ERROR_KIND);
            }
            int node = machine.now.thingAt(cell);
            machine.refuseGone(node);
            return node;
        }

        private int makeRelationship(Piece link, int left, int right) {
            int thing = makeThing(NODES, THINGS);
            graph.starts[thing - NODES] = link.way == Piece.ALONG ? left : right;
            graph.ends[thing - NODES] = link.way == Piece.ALONG ? right : left;
            graph.putType(thing, statement.pieces[link.sortsFrom].word);
            return thing;
        }

        /** Gives a new thing its LABELS (a RELATIONSHIP has its TYPE already, and keeps it), PROPERTIES and NAME. */
        private void furnish(int thing, Piece part) {
            for (int s = part.sortsFrom; s < part.sortsTo; s++) {
                putLabel(thing, statement.pieces[s].word);
            }
            for (int p = part.propertiesFrom; p < part.propertiesTo; p++) {
                machine.look(statement.pieces[p].from, statement.pieces[p].to);
                if (machine.stack.kindAt(0) != NULL) {
                    putProperty(thing, statement.pieces[p].word);
                }
            }
            if (part.column != NONE) {
                boolean isNode = thing < NODES;
                machine.now.put(machine.cellOf(part.column), isNode ? NODE : RELATIONSHIP, isNode ? thing : thing - NODES);
            }
        }

        private int makeThing(int from, int to) {
            int thing = graph.findFree(from, to);
            if (thing == NONE) {
                machine.fail(ERROR_TOO_MANY);
                return from;
            }
            countChange();
            graph.make(thing);
            return thing;
        }

        /* The LOG must have room for the END, too. */
        private void countChange() {
            if (graph.changes + 1 >= LOG) {
                machine.fail(ERROR_LOG);
            }
            graph.changes++;
        }

        private void putLabel(int node, long label) {
            if (graph.hasSort(node, label)) {
                return;
            }
            int slot = graph.findSort(node, 0);
            if (slot == NONE) {
                machine.fail(ERROR_TOO_MANY);
                return;
            }
            countChange();
            graph.putSort(slot, label);
        }

        private void takeLabel(int node, long label) {
            int slot = graph.findSort(node, label);
            if (slot != NONE) {
                countChange();
                graph.putSort(slot, 0);
            }
        }

        /** The VALUE that was looked at is put, which is not null. */
        private void putProperty(int thing, long key) {
            if (machine.stack.kindAt(0) >= NODE) {
                machine.fail(ERROR_KIND);
            }
            int slot = graph.findKey(thing, key);
            if (slot != NONE && graph.values.alike(slot, machine.stack, 0)) {
                return;
            }
            slot = slot == NONE ? graph.findKey(thing, 0) : slot;
            if (slot == NONE) {
                machine.fail(ERROR_TOO_MANY);
                return;
            }
            countChange();
            graph.putKey(slot, key);
            graph.values.copy(slot, machine.stack, 0);
        }

        private void takeProperty(int thing, long key) {
            int slot = graph.findKey(thing, key);
            if (slot != NONE) {
                countChange();
                graph.putKey(slot, 0);
            }
        }

        private void changeThings(Clause clause) {
            for (int row = 0; row < machine.now.rows; row++) {
                machine.goTo(row);
                for (int p = clause.piecesFrom; p < clause.piecesTo; p++) {
                    Piece change = statement.pieces[p];
                    changeThing(clause.kind == Token.SET, change, machine.cellOf(change.column));
                }
            }
        }

        private void changeThing(boolean put, Piece change, int cell) {
            int kind = machine.now.kindAt(cell);
            if (kind == NULL) {
                return;
            }
            if (kind < NODE || kind != NODE && change.kind == Token.COLON) {
                machine.fail(ERROR_KIND);
            }
            int thing = machine.now.thingAt(cell);
            machine.refuseGone(thing);
            if (change.kind == Token.COLON) {
                if (put) {
                    putLabel(thing, change.word);
                } else {
                    takeLabel(thing, change.word);
                }
                return;
            }
            if (put) {
                machine.look(change.from, change.to);
            }
            if (put && machine.stack.kindAt(0) != NULL) {
                putProperty(thing, change.word);
            } else {
                takeProperty(thing, change.word);
            }
        }

        private void delete(Clause clause) {
            Arrays.fill(doomed, (byte) 0);
            for (int row = 0; row < machine.now.rows; row++) {
                machine.goTo(row);
                for (int p = clause.piecesFrom; p < clause.piecesTo; p++) {
                    doom(machine.cellOf(statement.pieces[p].column));
                }
            }
            for (int thing = NODES; thing < THINGS; thing++) {
                if (doomed[thing] != 0) {
                    takeAway(thing);
                }
            }
            for (int node = 0; node < NODES; node++) {
                if (doomed[node] != 0 && graph.isThere(node)) {
                    free(node, clause.flag);
                    takeAway(node);
                }
            }
        }

        private void doom(int cell) {
            int kind = machine.now.kindAt(cell);
            if (kind == NULL) {
                return;
            }
            if (kind < NODE) {
                machine.fail(ERROR_KIND);
            }
            doomed[machine.now.thingAt(cell)] = 1;
        }

        private void takeAway(int thing) {
            if (graph.isThere(thing)) {
                countChange();
                graph.takeAway(thing);
            }
        }

        private void free(int node, boolean detach) {
            for (int r = 0; r < RELATIONSHIPS; r++) {
                if (graph.joins(r, node)) {
                    if (!detach) {
                        machine.fail(ERROR_TIED);
                    }
                    takeAway(NODES + r);
                }
            }
        }
    }
}
