/** The edges of the calls of promises 1 to 11: the last argument that is allowed on each side, and the first that is not. */
public final class CallEdgesTest {
    private static final int[] FAR = {Integer.MIN_VALUE, Integer.MIN_VALUE + 1, -1, 1 << 16, 1 << 28, 1 << 29, 1 << 30,
        Integer.MAX_VALUE - 1, Integer.MAX_VALUE};

    public static void main(String[] args) {
        newObject();
        typeCounts();
        typeBytes();
        typeOrder();
        typeRoom();
        typeRefusedChangesNothing();
        runEmptiesTheTape();
        runAnswers();
        faultArguments();
        faultOfTheLatestRun();
        tables();
        kindsAndValues();
        valuesOutside();
        mostValues();
        letters();
        heads();
        noMoreInAnyCase();
        nodes();
        relationships();
        lastCalls();
        House.end();
    }

    private static void newObject() {
        House h = new House("a new object");
        h.due("state", h.state("01234567"), "0 0 0 0 0 0 0 0");
        h.due("fault", h.faults(), "0 0 0 0");
        h.due("table", h.table(0) + " " + h.table(1), "0 0");
        h.due("kind", h.kind(0, 0), -1);
        h.due("value", h.value(0, 0), "none");
        h.due("letter", h.letter(0, 0, 0), -1);
        h.due("head", h.head(0, 0), -1);
        h.due("node", h.node(0), "-1 -1 -1 -1");
        h.due("relationship", h.relationship(0), "-1 -1 -1");
        h.due("commit", h.commit(), -1);
        h.due("rollback", h.rollback(), false);
        h.due("an empty tape", h.ask(""), "fault 2 at 0");
        House other = new House("two objects");
        other.due("CREATE (a)", "done");
        h.due("know nothing of one another", h.state(0), 0);
    }

    private static void typeCounts() {
        House h = new House("n of type");
        int[] wrong = {Integer.MIN_VALUE, -8, -1, 0, 9, 16, 64, Integer.MAX_VALUE};
        for (int n : wrong) {
            h.due("type n " + n, h.type(0x3131313131313131L, n), false);
        }
        h.due("nothing came to the tape", h.ask(""), "fault 2 at 0");
        for (int n = 1; n <= 8; n++) {
            h.type("RETURN ");
            h.due("type n " + n, h.type(0x3837363534333231L, n), true);
            h.due("the n lowest bytes", h.ask(""), "87654321".substring(8 - n));
        }
    }

    private static void typeBytes() {
        for (int character = 0; character < 256; character++) {
            boolean fits = character >= 32 && character <= 126;
            House h = new House("byte " + character);
            h.due("alone", h.type(character, 1), fits);
            h.due("lowest of eight", h.type(0x2020202020202000L | character, 8), fits);
            h.due("highest of eight", h.type((long) character << 56 | 0x20202020202020L, 8), fits);
            h.due("within", h.type(0x20002020L | (long) character << 16, 4), fits);
            h.due("above the n lowest", h.type((long) character << 24 | 0x202020L, 3), true);
        }
    }

    private static void typeOrder() {
        House h = new House("the highest first");
        h.due("type", h.type(0x52455455524E2027L, 8), true);
        h.due("type", h.type(0x6162636465666768L, 8), true);
        h.due("type", h.type(0x27L, 1), true);
        h.due("RETURN 'abcdefgh'", h.ask(""), "'abcdefgh'");
    }

    private static void typeRoom() {
        for (int n = 1; n <= 8; n++) {
            House h = new House("room for " + n);
            h.type("RETURN 1" + " ".repeat(392 - n));
            for (int more = n + 1; more <= 8; more++) {
                h.due(more + " more", h.type(0x2020202020202020L, more), false);
            }
            h.due(n + " more come to 400", h.type(0x2020202020202020L, n), true);
            for (int more = 1; more <= 8; more++) {
                h.due(more + " more", h.type(0x2020202020202020L, more), false);
            }
            h.due("all of it", h.ask(""), "1");
            h.due("empty then", h.type(0x2020202020202020L, 8), true);
        }
    }

    private static void typeRefusedChangesNothing() {
        House h = new House("refused");
        h.due("CREATE (a) RETURN a AS n,'xy' AS t", "N0,'xy'");
        h.type("RETURN 1");
        String all = h.all();
        h.due("n 0", h.type(0x3131L, 0), false);
        h.due("n 9", h.type(0x3131L, 9), false);
        h.due("a wrong byte behind right ones", h.type(0x31313100L, 4), false);
        h.due("a wrong byte ahead of right ones", h.type(0x7F313131L, 4), false);
        h.due("nothing is changed", h.all(), all);
        h.due("nor the tape", h.ask(""), "1");
    }

    private static void runEmptiesTheTape() {
        String[] statements = {"RETURN 1", "CREATE ()", "RETURN 1 1", "$", "RETURN 1/0", "RETURN x"};
        for (String statement : statements) {
            House h = new House("the tape behind " + statement);
            h.ask(statement);
            h.due("is empty", h.ask(""), "fault 2 at 0");
        }
    }

    private static void runAnswers() {
        House h = new House("run answers");
        h.due("RETURN 1", "1");
        h.due("0 without RETURN", h.ask(House.nodes(20)), "done");
        h.due("table", h.table(0) + " " + h.table(1), "0 0");
        h.due("MATCH (a) SET a.k=1", "done");
        h.due("table", h.table(0) + " " + h.table(1), "0 0");
        h.due("0 ROWS", h.ask("MATCH (a:Z) RETURN a"), "done");
        h.due("table", h.table(0) + " " + h.table(1), "0 1");
        h.due("RETURN 1,2,3,4,5,6 LIMIT 0", "done");
        h.due("table", h.table(0) + " " + h.table(1), "0 6");
    }

    private static void faultArguments() {
        House h = new House("fault(what)");
        h.due("RETURN 1 1", "fault 2 at 9");
        for (int what : FAR) {
            h.due("fault(" + what + ")", h.fault(what), -1);
        }
        h.due("fault(4)", h.fault(4), -1);
        h.due("fault(3)", h.fault(3), 0);
    }

    private static void faultOfTheLatestRun() {
        House h = new House("the latest run()");
        h.due("RETURN 1 1", "fault 2 at 9");
        h.due("a FAULT", h.faults(), "2 9 0 0");
        h.due("WITH 1 AS a RETURN a/0", "error 4 in 1");
        h.due("an ERROR", h.faults(), "0 0 4 1");
        h.type("RETURN $");
        h.begin();
        h.rollback();
        h.recover();
        h.checkpoint();
        h.due("until the next one", h.faults(), "0 0 4 1");
        h.due("RETURN $", h.ask(""), "fault 1 at 7");
        h.due("a FAULT", h.faults(), "1 7 0 0");
        h.due("RETURN 1", "1");
        h.due("none", h.faults(), "0 0 0 0");
        h.due("RETURN 1/0", "error 4 in 0");
        h.due("CREATE ()", "done");
        h.due("none", h.faults(), "0 0 0 0");
        h.due("RETURN 1/0", "error 4 in 0");
        h.cut(1);
        h.due("CREATE ()", "off");
        h.due("none of one by which it came to be OFF", h.faults(), "0 0 0 0");
    }

    private static void tables() {
        House h = new House("table(what)");
        h.due(House.nodes(3), "done");
        h.due("MATCH (a) RETURN a,1", "N0,1|N1,1|N2,1");
        h.due("ROWS and columns", h.table(0) + " " + h.table(1), "3 2");
        for (int what : FAR) {
            h.due("table(" + what + ")", h.table(what), -1);
        }
        h.due("table(2)", h.table(2), -1);
    }

    private static void kindsAndValues() {
        House h = new House("kinds");
        h.due("CREATE ()", "done");
        h.due("CREATE (a)-[:T]->(a)-[r:T]->(a) RETURN NULL,-7,TRUE,'abc',a,r", "null,-7,true,'abc',N1,R1");
        String[] values = {"0", "-7", "1", "3", "1", "1"};
        for (int column = 0; column < 6; column++) {
            h.due("kind(0, " + column + ")", h.kind(0, column), column);
            h.due("value(0, " + column + ")", h.value(0, column), values[column]);
        }
        h.due("RETURN 0,FALSE,'',999999999999999999,'abcdefghijklmnopqrstuvwx'", "0,false,'',999999999999999999,'abcdefghijklmnopqrstuvwx'");
        String[] others = {"0", "0", "0", "999999999999999999", "24"};
        for (int column = 0; column < 5; column++) {
            h.due("value(0, " + column + ")", h.value(0, column), others[column]);
        }
    }

    private static void valuesOutside() {
        House h = new House("outside");
        h.due(House.nodes(2), "done");
        h.due("MATCH (a) RETURN a,'x'", "N0,'x'|N1,'x'");
        for (int far : FAR) {
            none(h, far, 0);
            none(h, 0, far);
            none(h, far, far);
        }
        none(h, 2, 0);
        none(h, 0, 2);
        none(h, 2, 2);
        h.due("the last one", h.kind(1, 1) + " " + h.value(1, 1) + " " + h.letter(1, 1, 0), "3 1 " + (int) 'x');
    }

    private static void none(House h, int row, int column) {
        String where = "(" + row + ", " + column + ")";
        h.due("kind" + where, h.kind(row, column), -1);
        h.due("value" + where, h.value(row, column), "none");
        h.due("letter" + where, h.letter(row, column, 0), -1);
    }

    private static void mostValues() {
        House h = new House("200 ROWS and 6 columns");
        h.due(House.nodes(20), "done");
        h.due("run", h.run("MATCH (a) WITH a LIMIT 10 MATCH (b) RETURN a,b,1,TRUE,NULL,'z' AS abcdefgh"), 200);
        h.due("table", h.table(0) + " " + h.table(1), "200 6");
        h.due("the last ROW", h.value(199, 0) + " " + h.value(199, 1) + " " + h.value(199, 5), "9 19 1");
        h.due("the last column", h.kind(199, 5) + " " + h.letter(199, 5, 0) + " " + h.head(5), "3 " + (int) 'z' + " abcdefgh");
        none(h, 200, 0);
        none(h, 199, 6);
        none(h, 0, 6);
        none(h, 0, 8);
        h.due("head(6, 0)", h.head(6, 0), -1);
    }

    private static void letters() {
        House h = new House("letters");
        h.due("RETURN 'abcdefghijklmnopqrstuvwx','a','',1,NULL,TRUE", "'abcdefghijklmnopqrstuvwx','a','',1,null,true");
        for (int far : FAR) {
            h.due("letter(0, 0, " + far + ")", h.letter(0, 0, far), -1);
            h.due("letter(0, 1, " + far + ")", h.letter(0, 1, far), -1);
        }
        for (int i = 0; i < 24; i++) {
            h.due("letter(0, 0, " + i + ")", h.letter(0, 0, i), 'a' + i);
        }
        h.due("letter(0, 0, 24)", h.letter(0, 0, 24), -1);
        h.due("letter(0, 1, 0)", h.letter(0, 1, 0), (int) 'a');
        h.due("letter(0, 1, 1)", h.letter(0, 1, 1), -1);
        for (int column = 2; column < 6; column++) {
            h.due("letter(0, " + column + ", 0)", h.letter(0, column, 0), -1);
        }
        h.due("CREATE (a)-[r:T]->(b) RETURN a,r", "N0,R0");
        h.due("of things", h.letter(0, 0, 0) + " " + h.letter(0, 1, 0), "-1 -1");
    }

    private static void heads() {
        House h = new House("heads");
        h.due("RETURN 1 AS a,2 AS abcdefgh,3", "1,2,3");
        for (int far : FAR) {
            h.due("head(1, " + far + ")", h.head(1, far), -1);
            h.due("head(" + far + ", 0)", h.head(far, 0), -1);
        }
        for (int i = 0; i < 8; i++) {
            h.due("head(1, " + i + ")", h.head(1, i), 'a' + i);
            h.due("of no NAME", h.head(2, i), -1);
            h.due("of no column", h.head(3, i), -1);
        }
        h.due("head(1, 8)", h.head(1, 8), -1);
        h.due("head(0, 0)", h.head(0, 0), (int) 'a');
        h.due("head(0, 1)", h.head(0, 1), -1);
        h.due("above no ROWS", h.ask("MATCH (z:Z) RETURN z"), "done");
        h.due("head(0, 0)", h.head(0, 0), (int) 'z');
    }

    private static void noMoreInAnyCase() {
        String[] next = {"CREATE (b)", "RETURN 1/0", "RETURN 1 1", "$", "", "MATCH (z:Z) DELETE z"};
        for (String statement : next) {
            House h = new House("no more behind " + statement);
            h.due("CREATE (a) RETURN a AS n,'x' AS t", "N0,'x'");
            h.ask(statement);
            gone(h);
        }
        House h = new House("no more behind one that found it OFF");
        h.cut(1);
        h.due("RETURN 1 AS n,'x' AS t", "1,'x'");
        h.due("checkpoint", h.checkpoint(), House.OFF);
        h.due("it is there still", h.value(0, 0) + " " + h.letter(0, 1, 0) + " " + h.head(0, 0), "1 " + (int) 'x' + " " + (int) 'n');
        h.due("RETURN 2", "off");
        gone(h);
        House off = new House("no more behind one by which it came to be OFF");
        off.due("RETURN 1 AS n,'x' AS t", "1,'x'");
        off.cut(1);
        off.due("CREATE (a) RETURN a", "off");
        gone(off);
    }

    private static void gone(House h) {
        h.due("table", h.table(0) + " " + h.table(1), "0 0");
        none(h, 0, 0);
        none(h, 0, 1);
        h.due("head", h.head(0, 0) + " " + h.head(1, 0), "-1 -1");
    }

    private static void nodes() {
        House h = new House("node");
        h.due("CREATE (a:A:B{k:1,j:2,l:3})-[:T]->(b),(a)-[:T]->(b),(a)-[:T]->(a)", "done");
        h.due("node(0)", h.node(0), "2 3 3 1");
        h.due("node(1)", h.node(1), "0 0 0 2");
        h.due("node(2)", h.node(2), "-1 -1 -1 -1");
        h.due("node(63)", h.node(63), "-1 -1 -1 -1");
        h.due("node(64)", h.node(64), "-1 -1 -1 -1");
        h.due("node(0, 4)", h.node(0, 4), -1);
        for (int far : FAR) {
            h.due("node(" + far + ", 0)", h.node(far, 0), -1);
            h.due("node(0, " + far + ")", h.node(0, far), -1);
        }
        h.due("MATCH (b) WHERE ID(b)=1 DETACH DELETE b", "done");
        h.due("node(0)", h.node(0), "2 3 1 1");
        h.due("one that was taken away", h.node(1), "-1 -1 -1 -1");
        House full = new House("64 NODES");
        full.due(House.nodes(64), "done");
        full.due("node(63)", full.node(63), "0 0 0 0");
        full.due("node(64)", full.node(64), "-1 -1 -1 -1");
    }

    private static void relationships() {
        House h = new House("relationship");
        h.due("CREATE (a)-[:T{k:1,j:2}]->(b)<-[:T]-(c),(b)-[:T]->(b)", "done");
        h.due("relationship(0)", h.relationship(0), "0 1 2");
        h.due("relationship(1)", h.relationship(1), "2 1 0");
        h.due("relationship(2)", h.relationship(2), "1 1 0");
        h.due("relationship(3)", h.relationship(3), "-1 -1 -1");
        h.due("relationship(95)", h.relationship(95), "-1 -1 -1");
        h.due("relationship(96)", h.relationship(96), "-1 -1 -1");
        h.due("relationship(0, 3)", h.relationship(0, 3), -1);
        for (int far : FAR) {
            h.due("relationship(" + far + ", 0)", h.relationship(far, 0), -1);
            h.due("relationship(0, " + far + ")", h.relationship(0, far), -1);
        }
        h.due("MATCH ()-[r{k:1}]->() DELETE r", "done");
        h.due("one that was taken away", h.relationship(0), "-1 -1 -1");
        House full = new House("96 RELATIONSHIPS");
        full.due(House.nodes(16), "done");
        full.due("MATCH (a) CREATE (a)-[:T]->(a)-[:T]->(a)-[:T]->(a)-[:T]->(a)-[:T]->(a)-[:T]->(a)", "done");
        full.due("relationship(95)", full.relationship(95), "15 15 0");
        full.due("relationship(96)", full.relationship(96), "-1 -1 -1");
    }

    private static void lastCalls() {
        House h = new House("the 512th call");
        h.due("CREATE (:A{k:1})", "done");
        for (int k = 2; h.callsLeft() > 30; k++) {
            h.due("MATCH (a) SET a.k=" + k, "done");
            h.due("MATCH (a) RETURN a.k", "" + k);
        }
        h.type("MATCH (a) RETURN a:A");
        while (h.callsLeft() > 6) {
            h.due("node(0)", h.node(0, 1), 1);
        }
        h.due("MATCH (a) RETURN a:A", h.ask(""), "true");
        h.due("the last one", h.callsLeft() + " " + h.state(0), "1 1");
    }
}
