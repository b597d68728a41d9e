/** Promises 12 to 14: begin, commit and rollback. */
public final class TransactionTest {
    public static void main(String[] args) {
        commit();
        rollback();
        errorsInside();
        changesInside();
        noRoom();
        tooManyChanges();
        House.end();
    }

    private static void commit() {
        House h = new House("commit");
        h.due("none", h.commit(), -1);
        h.due("begin", h.begin(), true);
        h.due("begin again", h.begin(), false);
        h.due("state", h.state("57"), "1 0");
        h.due("CREATE (a:A{k:1}) RETURN a", "N0");
        h.due("MATCH (a) SET a.k=2 RETURN a.k", "2");
        h.due("state", h.state("01234567"), "1 0 0 0 0 1 5 4");
        h.due("commit", h.commit(), 5);
        h.due("state", h.state("01234567"), "1 0 5 5 0 0 5 0");
        h.due("commit again", h.commit(), -1);
        h.due("begin", h.begin(), true);
        h.due("MATCH (a) SET a.k=2 RETURN a.k", "2");
        h.due("nothing was changed", h.commit(), 0);
        h.due("state", h.state("2357"), "5 5 0 0");
        h.begin();
        h.due("CREATE (b) DELETE b", "done");
        h.due("two that undo one another", h.commit(), 3);
    }

    private static void rollback() {
        House h = new House("rollback");
        h.due("none", h.rollback(), false);
        h.due("CREATE (a:A{k:1})-[:T{w:1}]->(b)", "done");
        h.begin();
        h.due("MATCH (a:A) DETACH DELETE a", "done");
        h.due("CREATE (:B:C),(:D)", "done");
        h.due("MATCH (b:B) SET b.k=5,b:E REMOVE b:C", "done");
        h.due("state", h.state("0157"), "3 0 1 10");
        h.due("rollback", h.rollback(), true);
        h.due("state", h.state("012357"), "2 1 7 7 0 0");
        h.due("MATCH (a:A)-[r:T]->(b) RETURN a.k,r.w,b:B", "1,1,false");
        h.due("rollback again", h.rollback(), false);
        h.begin();
        h.due("MATCH ()-[r]->() DELETE r", "done");
        h.due("MATCH (a:A) CREATE (b)-[r:S]->(a) RETURN b,r", "N2,R0");
        h.due("relationship", h.relationship(0, 0) + " " + h.relationship(0, 1), "2 0");
        h.rollback();
        h.due("relationship", h.relationship(0, 0) + " " + h.relationship(0, 1), "0 1");
        h.due("MATCH ()-[r]->() RETURN TYPE(r)", "'T'");
        h.due("commit", h.commit(), -1);
    }

    private static void errorsInside() {
        House h = new House("errors inside");
        h.begin();
        h.due("CREATE (a:A)", "done");
        h.due("CREATE (b:B) SET b.k=1/0", "error 4 in 1");
        h.due("RETURN 1 1", "fault 2 at 9");
        h.due("state", h.state("0567"), "1 1 3 2");
        h.due("MATCH (a) DELETE a RETURN a.k", "error 8 in 2");
        h.due("state", h.state("0567"), "1 1 6 2");
        h.due("CREATE (b) RETURN b", "N1");
        h.due("commit", h.commit(), 4);
        h.due("state", h.state("0123"), "2 0 4 4");
    }

    private static void changesInside() {
        House h = new House("numbers are free in the next statement");
        h.begin();
        h.due("CREATE (a:A) RETURN a", "N0");
        h.due("MATCH (a) DELETE a CREATE (b) RETURN b", "N1");
        h.due("CREATE (c) RETURN c", "N0");
        h.due("commit", h.commit(), 6);
    }

    private static String nodes(int count) {
        return "CREATE " + "(),".repeat(count - 1) + "()";
    }

    private static void noRoom() {
        House h = new House("no room");
        String sixty = nodes(60);
        String clear = "MATCH (a) DELETE a";
        h.due(sixty, "done");
        h.due(clear, "done");
        h.due(sixty, "done");
        h.due(clear, "done");
        h.due("state", h.state("3"), "244");
        h.due(nodes(6), "error 9 in 1");
        h.due("state", h.state("02346"), "0 244 244 0 243");
        h.begin();
        h.due(nodes(6), "done");
        h.due("commit", h.commit(), -2);
        h.due("state", h.state("023457"), "6 244 244 0 1 6");
        h.due("MATCH (a) WITH a LIMIT 1 DELETE a RETURN 1", "1");
        h.due("commit", h.commit(), -2);
        h.due("checkpoint", h.checkpoint(), -1);
        h.due("rollback", h.rollback(), true);
        h.due(nodes(5), "done");
        h.due("it is full", h.state("023"), "5 250 250");
        h.due("CREATE ()", "error 9 in 1");
        h.due("MATCH (a) RETURN a LIMIT 1", "N0");
        h.begin();
        h.due("no CHANGES need no room", h.commit(), 0);
        h.due("checkpoint", h.checkpoint(), 6);
        h.due("state", h.state("023"), "5 256 0");
        h.due("CREATE ()", "done");
        h.due("state", h.state("023"), "6 258 2");
    }

    private static void tooManyChanges() {
        House h = new House("the 250th CHANGE");
        h.due(nodes(62), "done");
        h.due("checkpoint", h.checkpoint(), 63);
        h.begin();
        h.due("MATCH (a) SET a.k=1,a.j=1,a.l=1,a.m=1", "done");
        h.due("state", h.state("7"), "248");
        h.due("MATCH (a) WHERE ID(a)<2 SET a:A", "error 9 in 1");
        h.due("state", h.state("57"), "1 248");
        h.due("MATCH (a) WHERE ID(a)<1 SET a:A RETURN a:A", "true");
        h.due("MATCH (a) SET a.k=1,a:A", "error 9 in 1");
        h.due("MATCH (a) SET a.k=1 RETURN COUNT(*)", "62");
        h.due("CREATE (a:A)", "error 9 in 0");
        h.due("MATCH (a) WHERE ID(a)=0 REMOVE a:A", "error 9 in 1");
        h.due("commit", h.commit(), 250);
        h.due("state", h.state("023457"), "62 " + (63 + 63 + 250) + " 250 0 0 0");
        h.due("checkpoint", h.checkpoint(), 63);
        h.due("MATCH (a) SET a.k=2,a.j=2,a.l=2,a.m=2,a:B", "error 9 in 1");
        h.due("MATCH (a) REMOVE a.k,a.j,a.l,a.m CREATE (a)-[:T]->(a)", "error 9 in 2");
        h.due("CREATE (),(),()", "error 6 in 0");
    }
}
