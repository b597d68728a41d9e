/** Promises 15 to 18: checkpoint, cut, recover and state. */
public final class StoreTest {
    public static void main(String[] args) {
        checkpoint();
        cutStatement();
        cutEveryWrite();
        cutCommit();
        cutCheckpoint();
        cutNumbers();
        whileOff();
        recover();
        wrongInputs();
        House.end();
    }

    private static void checkpoint() {
        House h = new House("checkpoint");
        h.due("of nothing", h.checkpoint(), 1);
        h.due("CREATE (a:A{k:1})-[:T]->(b)", "done");
        h.due("state", h.state("23"), "7 6");
        h.due("checkpoint", h.checkpoint(), 4);
        h.due("state", h.state("23"), "11 0");
        h.begin();
        h.due("under way", h.checkpoint(), -1);
        h.rollback();
        h.due("recover", h.recover(), 0);
        h.due("MATCH (a)-[r]->(b) RETURN a,r,b,a.k", "N0,R0,N1,1");
    }

    private static void cutStatement() {
        House h = new House("cut a statement");
        h.due("CREATE (:A{k:1})", "done");
        h.due("cut", h.cut(3), true);
        h.due("CREATE (a:B)-[:T]->(b) RETURN a", "off");
        h.due("nothing is returned", h.table(0) + " " + h.table(1), "0 0");
        for (int what = 0; what < 4; what++) {
            h.due("fault(" + what + ")", h.fault(what), 0);
        }
        h.due("state", h.state("01234567"), "0 0 6 6 1 0 3 0");
        h.due("node", h.node(0, 0), -1);
        h.due("recover", h.recover(), 1);
        h.due("state", h.state("01234567"), "1 0 6 4 0 0 3 0");
        h.due("node", h.node(0, 0), 1);
        h.due("MATCH (a) RETURN a,a.k,a:A", "N0,1,true");
        h.due("CREATE (a:B)-[:T]->(b) RETURN a", "N1");
        h.due("state", h.state("0123"), "3 1 11 9");
        h.due("recover", h.recover(), 2);
        h.due("state", h.state("0123"), "3 1 11 9");
    }

    private static void cutEveryWrite() {
        for (int n = 1; n <= 8; n++) {
            House h = new House("cut write " + n);
            h.due("CREATE (:A)", "done");
            h.cut(n);
            h.due("CREATE (:B{k:1})", n <= 4 ? "off" : "done");
            h.due("MATCH (a) SET a.j=1", n <= 7 ? "off" : "done");
            h.due("writes and LOG", h.state("234"), (n + 2) + " " + (n <= 4 ? n + 2 : n <= 7 ? n + 2 : 10) + " " + (n < 8 ? 1 : 0));
            h.due("recover", h.recover(), n <= 4 ? 1 : n <= 7 ? 2 : 3);
            h.due("MATCH (a) RETURN COUNT(*),SUM(a.j),SUM(a.k)", n <= 4 ? "1,0,0" : n <= 7 ? "2,0,1" : "2,2,1");
        }
    }

    private static void cutCommit() {
        House h = new House("cut a commit");
        h.begin();
        h.due("CREATE (:A),(:B)", "done");
        h.due("cut", h.cut(5), true);
        h.due("CHANGES wait until all is done", h.state("0235"), "2 0 0 1");
        h.due("commit", h.commit(), House.OFF);
        h.due("state", h.state("01234567"), "0 0 4 4 1 0 1 0");
        h.due("commit", h.commit(), House.OFF);
        h.due("rollback", h.rollback(), false);
        h.due("recover", h.recover(), 0);
        h.due("state", h.state("01234567"), "0 0 4 0 0 0 1 0");
        h.due("commit", h.commit(), -1);
        h.begin();
        h.cut(1);
        h.due("nothing to write", h.commit(), 0);
        h.due("RETURN 1", "1");
        h.due("CREATE ()", "off");
    }

    private static void cutCheckpoint() {
        for (int n = 1; n <= 4; n++) {
            House h = new House("cut write " + n + " of a checkpoint");
            h.due("CREATE (:A{k:1})", "done");
            h.due("checkpoint", h.checkpoint(), 2);
            h.due("CREATE (:B)", "done");
            h.due("MATCH (a:A) SET a.k=2", "done");
            h.cut(n);
            h.due("checkpoint", h.checkpoint(), n <= 3 ? House.OFF : 3);
            h.due("writes and LOG", h.state("234"), (10 + n) + " " + (n <= 3 ? 5 : 0) + " " + (n <= 3 ? 1 : 0));
            h.due("recover", h.recover(), n <= 3 ? 2 : 0);
            h.due("MATCH (a) RETURN a,a.k", "N0,2|N1,null");
            h.due("LOG", h.state(3), n <= 3 ? 5 : 0);
        }
    }

    private static void cutNumbers() {
        House h = new House("cut(n)");
        int[] wrong = {-1, 2001, Integer.MIN_VALUE, Integer.MAX_VALUE};
        h.due("cut(1)", h.cut(1), true);
        for (int n : wrong) {
            h.due("cut(" + n + ")", h.cut(n), false);
        }
        h.due("the last one that was told counts", h.cut(2000), true);
        h.due("CREATE (:A)", "done");
        h.due("cut(3)", h.cut(3), true);
        h.due("MATCH (a) SET a.k=1", "done");
        h.due("cut(0)", h.cut(0), true);
        h.due("MATCH (a) SET a.k=2", "done");
        h.due("cut(3)", h.cut(3), true);
        h.due("MATCH (a) SET a.k=3", "done");
        h.due("MATCH (a) SET a.k=4", "off");
        h.due("cut(1)", h.cut(1), false);
        h.due("recover", h.recover(), 4);
        h.due("MATCH (a) SET a.k=5 RETURN a.k", "5");
        h.due("cut(1)", h.cut(1), true);
        h.due("recover tells none", h.recover(), 5);
        h.due("MATCH (a) SET a.k=6 RETURN a.k", "6");
        House last = new House("the 2000th write");
        last.due("CREATE " + "(),".repeat(59) + "()", "done");
        last.cut(2000);
        for (int i = 0; i < 32; i++) {
            last.due("checkpoint", last.checkpoint(), 61);
        }
        last.due("MATCH (a) WHERE ID(a)<46 DELETE a", "done");
        last.due("checkpoint", last.checkpoint(), House.OFF);
        last.due("writes", last.state(2), 61 + 1999);
    }

    private static void whileOff() {
        House h = new House("OFF");
        h.due("CREATE (a)-[:T]->(b)", "done");
        h.cut(1);
        h.due("CREATE ()", "off");
        h.due("RETURN 1", "off");
        h.due("RETURN 1 1", "off");
        h.due("fault", h.fault(0) + " " + h.fault(1) + " " + h.fault(2), "0 0 0");
        h.due("begin", h.begin(), false);
        h.due("commit", h.commit(), House.OFF);
        h.due("rollback", h.rollback(), false);
        h.due("checkpoint", h.checkpoint(), House.OFF);
        h.due("cut", h.cut(0), false);
        h.due("node", h.node(0, 0), -1);
        h.due("relationship", h.relationship(0, 0), -1);
        h.due("state", h.state("01234567"), "0 0 4 4 1 0 2 0");
        h.type("RETURN 7");
        h.due("recover", h.recover(), 1);
        h.due("the tape", h.ask(""), "7");
        h.due("state", h.state("01"), "2 1");
        h.cut(1);
        h.due("CREATE ()", "off");
        h.type("RETURN 7");
        h.due("a run that finds it OFF", h.ask(""), "off");
        h.recover();
        h.due("empties the tape", h.ask(""), "fault 2 at 0");
    }

    private static void recover() {
        House h = new House("recover");
        h.due("CREATE (a:A{k:1})", "done");
        h.begin();
        h.due("MATCH (a) SET a.k=2,a:B CREATE (b)", "done");
        h.due("recover", h.recover(), 1);
        h.due("state", h.state("01234567"), "1 0 4 4 0 0 4 0");
        h.due("MATCH (a) RETURN a,a.k,a:B", "N0,1,false");
        h.due("MATCH (a) SET a.k=3", "done");
        h.due("checkpoint", h.checkpoint(), 2);
        h.due("MATCH (a) SET a.j='x'", "done");
        h.due("MATCH (a) CREATE (a)-[:T{w:TRUE}]->(b:C)", "done");
        h.due("recover", h.recover(), 2);
        h.due("MATCH (a)-[r:T]->(b:C) RETURN a.k,a.j,r.w", "3,'x',true");
        h.due("recover", h.recover(), 2);
    }

    private static void wrongInputs() {
        House h = new House("state(what)");
        int[] wrong = {-1, 8, Integer.MIN_VALUE, Integer.MAX_VALUE};
        for (int what : wrong) {
            h.due("state(" + what + ")", h.state(what), -1);
        }
    }
}
