/** The edges of THE STORE and THE POWER, promises 12 to 18: every refused call, and every WRITE at which power can fail. */
public final class StoreEdgesTest {
    public static void main(String[] args) {
        beginRefused();
        commitRefused();
        commitOfNothing();
        commitWrites();
        rollbackRefused();
        rollbackOfAll();
        thingsOfATransaction();
        checkpointRefused();
        checkpointWrites();
        cutArguments();
        cutOfNone();
        cutIsToldAnew();
        cutCountsWritesAlone();
        cutOfAStatement();
        cutOfACommit();
        cutOfACheckpoint();
        cutBehindACheckpoint();
        cutAtTheLastWriteOfTheLog();
        offRefusesAll();
        offAheadOfAll();
        offOfStatementsThatWriteNothing();
        recoverOnANewHouse();
        recoverWithoutNeed();
        recoverTellsNone();
        recoverAgainAndAgain();
        recoverLosesTheTransaction();
        states();
        statesWithWrongWhat();
        House.end();
    }

    private static House pair(String name) {
        House h = new House(name);
        h.due("CREATE (a:A{k:1})-[:T{w:1}]->(b)", "done");
        return h;
    }

    /** A house that is OFF; it had one TRANSACTION of 6 CHANGES. */
    private static House off(String name) {
        House h = pair(name);
        h.due("cut(1)", h.cut(1), true);
        h.due("CREATE (c)", "off");
        return h;
    }

    private static void beginRefused() {
        House h = pair("begin");
        h.due("begin", h.begin(), true);
        h.due("CREATE ()", "done");
        String all = h.all();
        h.due("one is under way", h.begin(), false);
        h.due("nothing is changed", h.all(), all);
        h.due("commit", h.commit(), 2);
        h.due("begin again", h.begin(), true);
        h.due("rollback", h.rollback(), true);
        h.due("begin again", h.begin(), true);
        House off = off("begin while OFF");
        String before = off.all();
        off.due("begin", off.begin(), false);
        off.due("nothing is changed", off.all(), before);
        off.recover();
        off.due("begin", off.begin(), true);
    }

    private static void commitRefused() {
        House h = pair("commit");
        String all = h.all();
        h.due("none is under way", h.commit(), -1);
        h.due("nothing is changed", h.all(), all);
        h.begin();
        h.due("commit", h.commit(), 0);
        h.due("none is under way any more", h.commit(), -1);
        h.begin();
        h.rollback();
        h.due("nor behind rollback", h.commit(), -1);
        House off = off("commit while OFF");
        String before = off.all();
        off.due("commit", off.commit(), House.OFF);
        off.due("nothing is changed", off.all(), before);
        off.recover();
        off.due("none is under way", off.commit(), -1);
    }

    private static void commitOfNothing() {
        House h = pair("it changed nothing");
        String writes = h.state("23");
        h.begin();
        h.due("no statement", h.commit(), 0);
        h.begin();
        h.due("MATCH (a:A) SET a.k=1,a:A,a.z=NULL REMOVE a:Z RETURN a.k", "1");
        h.due("MATCH (a:A) SET a.k=2 RETURN 1/0", "error 4 in 2");
        h.due("commit", h.commit(), 0);
        h.due("no WRITES", h.state("23"), writes);
        h.due("no TRANSACTION more", h.recover(), 1);
    }

    private static void commitWrites() {
        House h = pair("commit writes");
        h.begin();
        h.due("MATCH (a:A) SET a.k=2", "done");
        h.due("one CHANGE and END", h.commit(), 2);
        h.due("state", h.state("23"), "9 9");
        h.begin();
        h.due("CREATE (a) DELETE a", "done");
        h.due("that undo one another", h.commit(), 3);
        h.due("recover", h.recover(), 3);
        h.due("MATCH (a:A) RETURN a.k", "2");
    }

    private static void rollbackRefused() {
        House h = pair("rollback");
        String all = h.all();
        h.due("none is under way", h.rollback(), false);
        h.due("nothing is changed", h.all(), all);
        h.begin();
        h.due("rollback", h.rollback(), true);
        h.due("none is under way any more", h.rollback(), false);
        House off = off("rollback while OFF");
        off.due("rollback", off.rollback(), false);
        off.recover();
        off.due("none is under way", off.rollback(), false);
    }

    private static void rollbackOfAll() {
        House h = pair("rollback");
        String graph = h.state("0123") + h.node(0) + h.node(1) + h.relationship(0);
        h.begin();
        h.due("MATCH (a:A)-[r]->(b) SET a.k=2,a:B,r.w=NULL,b.j=1 REMOVE a:A CREATE (c)-[:S]->(a)", "done");
        h.due("MATCH (b) WHERE ID(b)=1 DETACH DELETE b", "done");
        h.due("CHANGES", h.state("0157"), "2 1 1 9");
        h.due("rollback", h.rollback(), true);
        h.due("as it was", h.state("0123") + h.node(0) + h.node(1) + h.relationship(0), graph);
        h.due("CHANGES", h.state("57"), "0 0");
        h.due("MATCH (a:A)-[r:T]->(b) RETURN a.k,a:B,r.w,b.j", "1,false,1,null");
        h.begin();
        h.due("CHANGES begin anew", h.state(7), 0);
    }

    /** node() and relationship() tell of the graph as the TRANSACTION under way has changed it. */
    private static void thingsOfATransaction() {
        House h = pair("things of a TRANSACTION");
        h.begin();
        h.due("MATCH (a:A)-[r]->(b) SET a:B,a:C,a.j=2,r.v=2,r.u=3 CREATE (a)-[:S]->(c{k:1})-[:S]->(a)", "done");
        h.due("node(0)", h.node(0), "3 2 2 1");
        h.due("node(2)", h.node(2), "0 1 1 1");
        h.due("relationship(0)", h.relationship(0), "0 1 3");
        h.due("relationship(2)", h.relationship(2), "2 0 0");
        h.due("MATCH (a)-[r:T]->(b) DELETE r,b", "done");
        h.due("node(1)", h.node(1), "-1 -1 -1 -1");
        h.due("relationship(0)", h.relationship(0), "-1 -1 -1");
        h.due("node(0)", h.node(0), "3 2 1 1");
        h.due("MATCH (a:A) CREATE (x)-[r:U]->(a) RETURN x,r", "N1,R0");
        h.due("relationship(0)", h.relationship(0), "1 0 0");
        h.due("rollback", h.rollback(), true);
        h.due("as it was", h.node(0) + " " + h.node(1) + " " + h.node(2), "1 1 1 0 0 0 0 1 -1 -1 -1 -1");
        h.due("as it was", h.relationship(0) + " " + h.relationship(1) + " " + h.relationship(2), "0 1 1 -1 -1 -1 -1 -1 -1");
    }

    private static void checkpointRefused() {
        House h = pair("checkpoint");
        h.begin();
        h.due("CREATE ()", "done");
        String all = h.all();
        h.due("one is under way", h.checkpoint(), -1);
        h.due("nothing is changed", h.all(), all);
        h.due("commit", h.commit(), 2);
        h.due("none is under way", h.checkpoint(), 5);
        House off = off("checkpoint while OFF");
        String before = off.all();
        off.due("checkpoint", off.checkpoint(), House.OFF);
        off.due("nothing is changed", off.all(), before);
    }

    private static void checkpointWrites() {
        House h = new House("checkpoint writes");
        h.due("of nothing", h.checkpoint(), 1);
        h.due("state", h.state("23"), "1 0");
        h.due("CREATE (a:A:B{k:1,j:2})-[:T{w:1}]->(b),(c)", "done");
        h.due("state", h.state("23"), "11 10");
        h.due("one for each thing, and one", h.checkpoint(), 5);
        h.due("the LOG is empty", h.state("23"), "16 0");
        h.due("again", h.checkpoint(), 5);
        h.due("no TRANSACTION is in it", h.recover(), 0);
        h.due("MATCH (a:A)-[r:T]->(b) RETURN a.k,a.j,r.w", "1,2,1");
        House full = new House("checkpoint of 64 NODES");
        full.due(House.nodes(64), "done");
        full.due("checkpoint", full.checkpoint(), 65);
    }

    private static void cutArguments() {
        House h = pair("cut");
        h.due("cut(1)", h.cut(1), true);
        int[] wrong = {-1, 2001, -2000, 4096, Integer.MIN_VALUE, Integer.MAX_VALUE};
        String all = h.all();
        for (int n : wrong) {
            h.due("cut(" + n + ")", h.cut(n), false);
        }
        h.due("nothing is changed", h.all(), all);
        h.due("cut(1) is told still", h.ask("CREATE ()"), "off");
        h.due("cut(0) while OFF", h.cut(0), false);
        h.due("cut(1) while OFF", h.cut(1), false);
        h.due("cut(2001) while OFF", h.cut(2001), false);
        h.recover();
        h.due("cut(0)", h.cut(0), true);
        h.due("cut(2000)", h.cut(2000), true);
        h.due("cut(1) while one is under way", h.begin() && h.cut(1), true);
    }

    private static void cutOfNone() {
        House h = pair("cut(0)");
        h.due("cut(1)", h.cut(1), true);
        h.due("cut(0)", h.cut(0), true);
        h.due("CREATE (c) RETURN c", "N2");
        h.due("checkpoint", h.checkpoint(), 5);
    }

    private static void cutIsToldAnew() {
        House h = pair("from now on");
        h.due("cut(3)", h.cut(3), true);
        h.due("two WRITES", h.ask("CREATE (c) RETURN c"), "N2");
        h.due("cut(3)", h.cut(3), true);
        h.due("two WRITES", h.ask("CREATE (d) RETURN d"), "N3");
        h.due("the third one", h.ask("CREATE (e) RETURN e"), "off");
        h.due("WRITES", h.state("23"), "11 11");
        h.due("recover", h.recover(), 3);
    }

    private static void cutCountsWritesAlone() {
        House h = pair("WRITES alone");
        h.due("cut(1)", h.cut(1), true);
        h.due("MATCH (a) RETURN COUNT(*)", "2");
        h.due("MATCH (a:A) SET a.k=1", "done");
        h.due("CREATE (c) RETURN 1/0", "error 4 in 1");
        h.due("begin", h.begin(), true);
        h.due("CREATE (c)", "done");
        h.due("rollback", h.rollback(), true);
        h.due("begin", h.begin(), true);
        h.due("commit", h.commit(), 0);
        h.due("state", h.state("234"), "7 7 0");
        h.due("CREATE (c)", "off");
        h.due("state", h.state("234"), "7 7 1");
    }

    /** A statement of 3 CHANGES and END; the WRITE behind it is one of the next statement. */
    private static void cutOfAStatement() {
        for (int n = 1; n <= 5; n++) {
            House h = pair("cut(" + n + ")");
            h.due("cut", h.cut(n), true);
            h.due("CREATE (c:C{k:2}) RETURN c", n <= 4 ? "off" : "N2");
            if (n <= 4) {
                h.due("state", h.state("01234567"), "0 0 " + (7 + n - 1) + " " + (7 + n - 1) + " 1 0 3 0");
                h.due("fault and table", h.faults() + " " + h.table(0) + " " + h.table(1), "0 0 0 0 0 0");
                h.due("nodes", h.node(0) + " " + h.node(2) + " " + h.relationship(0), "-1 -1 -1 -1 -1 -1 -1 -1 -1 -1 -1");
            } else {
                h.due("state", h.state("01234567"), "3 1 11 11 0 0 3 0");
                h.due("MATCH (c:C) DELETE c", "off");
            }
            h.due("recover", h.recover(), n <= 4 ? 1 : 2);
            h.due("what has no END is dropped", h.state("01234"), n <= 4 ? "2 1 " + (7 + n - 1) + " 7 0" : "3 1 11 11 0");
            h.due("no WRITE is told", h.ask("CREATE (d) RETURN d"), n <= 4 ? "N2" : "N3");
        }
    }

    private static void cutOfACommit() {
        for (int n = 1; n <= 5; n++) {
            House h = pair("cut(" + n + ") of a commit");
            h.begin();
            h.due("CREATE (c)", "done");
            h.due("MATCH (a:A) SET a.k=2,a:B", "done");
            h.due("cut", h.cut(n), true);
            h.due("nothing is written yet", h.state("2345"), "7 7 0 1");
            h.due("commit", h.commit(), n <= 4 ? House.OFF : 4);
            if (n <= 4) {
                h.due("state", h.state("01234567"), "0 0 " + (6 + n) + " " + (6 + n) + " 1 0 4 0");
                h.due("commit again", h.commit(), House.OFF);
            }
            h.due("recover", h.recover(), n <= 4 ? 1 : 2);
            h.due("state", h.state("01345"), n <= 4 ? "2 1 7 0 0" : "3 1 11 0 0");
            h.due("MATCH (a:A) RETURN a.k,a:B", n <= 4 ? "1,false" : "2,true");
        }
    }

    /** 3 things and one: the fifth WRITE is one of the next statement. */
    private static void cutOfACheckpoint() {
        for (int n = 1; n <= 5; n++) {
            House h = pair("cut(" + n + ") of a checkpoint");
            h.due("checkpoint", h.checkpoint(), 4);
            h.due("MATCH (a:A) SET a.k=2", "done");
            h.due("cut", h.cut(n), true);
            h.due("checkpoint", h.checkpoint(), n <= 4 ? House.OFF : 4);
            h.due("state", h.state("234"), (n <= 4 ? 13 + n - 1 : 17) + " " + (n <= 4 ? "2 1" : "0 0"));
            h.due("recover", h.recover(), n <= 4 ? 1 : 0);
            h.due("state", h.state("0134"), n <= 4 ? "2 1 2 0" : "2 1 0 0");
            h.due("MATCH (a:A)-[r:T]->() RETURN a.k,r.w", "2,1");
            h.due("checkpoint", h.checkpoint(), 4);
            h.due("recover", h.recover(), 0);
        }
    }

    private static void cutBehindACheckpoint() {
        House h = pair("behind a checkpoint");
        h.due("checkpoint", h.checkpoint(), 4);
        h.due("cut(2)", h.cut(2), true);
        h.due("MATCH (a:A) SET a.k=2", "off");
        h.due("one without END is in the LOG", h.state("23"), "12 1");
        h.due("recover", h.recover(), 0);
        h.due("state", h.state("0123"), "2 1 12 0");
        h.due("MATCH (a:A) RETURN a.k", "1");
    }

    private static void cutAtTheLastWriteOfTheLog() {
        House h = new House("a LOG that comes to be full");
        h.due(House.nodes(62), "done");
        h.due("MATCH (a) SET a.k=1,a.j=1,a:A", "done");
        h.due("LOG", h.state(3), 250);
        h.due("cut(1)", h.cut(1), true);
        h.due("no room is ahead of no power", h.ask("CREATE ()"), "error 9 in 1");
        h.begin();
        h.due("CREATE ()", "done");
        h.due("commit", h.commit(), -2);
        h.due("state", h.state("45"), "0 1");
        h.due("rollback", h.rollback(), true);
        h.due("checkpoint", h.checkpoint(), House.OFF);
        h.due("recover", h.recover(), 2);
        h.due("state", h.state("0134"), "62 0 250 0");
    }

    private static void offRefusesAll() {
        House h = off("OFF");
        h.due("state", h.state("01234567"), "0 0 7 7 1 0 2 0");
        h.due("node", h.node(0), "-1 -1 -1 -1");
        h.due("relationship", h.relationship(0), "-1 -1 -1");
        h.due("begin", h.begin(), false);
        h.due("commit", h.commit(), House.OFF);
        h.due("rollback", h.rollback(), false);
        h.due("checkpoint", h.checkpoint(), House.OFF);
        h.due("cut", h.cut(5), false);
        h.due("run", h.ask("RETURN 1"), "off");
        h.type("RETURN 5");
        h.due("state", h.state("01234567"), "0 0 7 7 1 0 2 0");
        h.due("recover", h.recover(), 1);
        h.due("state", h.state("01234567"), "2 1 7 7 0 0 2 0");
        h.due("the tape", h.ask(""), "5");
    }

    private static void offAheadOfAll() {
        House h = off("OFF ahead of all");
        String[] statements = {"RETURN 1", "RETURN 1 1", "RETURN $", "", "RETURN x", "RETURN 1/0", "CREATE ()"};
        for (String statement : statements) {
            h.due(statement, "off");
            h.due("fault", h.faults(), "0 0 0 0");
        }
        h.due("WORK", h.state(6), 2);
        h.recover();
        h.due("each of them emptied the tape", h.ask("RETURN 1"), "1");
    }

    private static void offOfStatementsThatWriteNothing() {
        House h = pair("what writes nothing");
        h.due("MATCH (a) RETURN a.k AS k", "1|null");
        h.due("cut(1)", h.cut(1), true);
        h.due("MATCH (a:A) RETURN a.k AS k", "1");
        h.due("CREATE (c) RETURN c AS k", "off");
        h.due("what was returned before is no more", h.table(0) + " " + h.table(1) + " " + h.head(0, 0), "0 0 -1");
        h.due("its WORK counts", h.state(6), 1 + 4 + 2 + 2);
    }

    private static void recoverOnANewHouse() {
        House h = new House("a new house");
        h.due("recover", h.recover(), 0);
        h.due("state", h.state("01234567"), "0 0 0 0 0 0 0 0");
        h.due("CREATE (a) RETURN a", "N0");
    }

    private static void recoverWithoutNeed() {
        House h = pair("not OFF");
        h.due("MATCH (a:A) RETURN a.k AS k", "1");
        String all = h.all();
        h.due("recover", h.recover(), 1);
        h.due("all is as it was", h.all(), all);
        h.due("MATCH (a:A)-[r:T]->(b) RETURN a.k,r.w", "1,1");
    }

    private static void recoverTellsNone() {
        House h = pair("no WRITE is told then");
        h.due("cut(1)", h.cut(1), true);
        h.due("recover", h.recover(), 1);
        h.due("CREATE (c) RETURN c", "N2");
        h.due("cut(2)", h.cut(2), true);
        h.due("CREATE (d) RETURN d", "off");
        h.due("recover", h.recover(), 2);
        h.due("CREATE (d) RETURN d", "N3");
        h.due("CREATE (e) RETURN e", "N4");
    }

    private static void recoverAgainAndAgain() {
        House h = pair("again and again");
        for (int i = 1; i <= 3; i++) {
            h.due("recover", h.recover(), i);
            h.due("recover", h.recover(), i);
            h.due("they stay in it", h.state("23"), (5 + 2 * i) + " " + (5 + 2 * i));
            h.due("MATCH (a:A) SET a.k=a.k+1", "done");
        }
        h.due("MATCH (a:A) RETURN a.k", "4");
    }

    private static void recoverLosesTheTransaction() {
        House h = pair("under way");
        h.begin();
        h.due("MATCH (a:A) SET a.k=2 CREATE (c)", "done");
        h.due("state", h.state("0157"), "3 1 1 2");
        h.due("recover", h.recover(), 1);
        h.due("state", h.state("012357"), "2 1 7 7 0 0");
        h.due("MATCH (a:A) RETURN a.k", "1");
        h.due("commit", h.commit(), -1);
        h.due("rollback", h.rollback(), false);
    }

    private static void states() {
        House h = new House("states");
        h.due("new", h.state("01234567"), "0 0 0 0 0 0 0 0");
        h.due("CREATE (a)-[:T]->(b),(a)-[:T]->(c)", "done");
        h.due("made", h.state("01234567"), "3 2 6 6 0 0 1 0");
        h.begin();
        h.due("under way", h.state("01234567"), "3 2 6 6 0 1 1 0");
        h.due("MATCH (a)-[r]->(b) DELETE r,b", "done");
        h.due("changed", h.state("01234567"), "1 0 6 6 0 1 5 4");
        h.due("commit", h.commit(), 5);
        h.due("committed", h.state("01234567"), "1 0 11 11 0 0 5 0");
        h.due("checkpoint", h.checkpoint(), 2);
        h.due("written", h.state("01234567"), "1 0 13 0 0 0 5 0");
        h.due("cut(1)", h.cut(1), true);
        h.due("CREATE ()", "off");
        h.due("OFF", h.state("01234567"), "0 0 13 0 1 0 6 0");
    }

    private static void statesWithWrongWhat() {
        int[] wrong = {-1, 8, 9, 100, Integer.MIN_VALUE, Integer.MAX_VALUE};
        House on = pair("wrong what");
        House off = off("wrong what while OFF");
        for (int what : wrong) {
            on.due("state(" + what + ")", on.state(what), -1);
            off.due("state(" + what + ")", off.state(what), -1);
        }
    }
}
