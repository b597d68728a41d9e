/** Promise 3: ERRORS 1, 6 and 10, and that a statement with an ERROR leaves all but its WORK as it was. */
public final class LimitTest {
    public static void main(String[] args) {
        rows();
        optionalRows();
        nodes();
        relationships();
        work();
        wholeOrNotAtAll();
        House.end();
    }

    private static String nodes(int count) {
        return "CREATE " + "(),".repeat(count - 1) + "()";
    }

    private static void rows() {
        House h = new House("ROWS");
        h.due(nodes(14), "done");
        h.due("MATCH (a),(b) RETURN COUNT(*)", "196");
        h.due("CREATE ()", "done");
        h.due("MATCH (a),(b) RETURN COUNT(*)", "error 1 in 0");
        h.due("MATCH (a),(b) WHERE a=b RETURN COUNT(*)", "error 1 in 0");
        h.due("WORK", h.state(6), 1 + 196 + 196 + 1 + 200 + 200);
        h.due("MATCH (a) WITH a LIMIT 13 MATCH (b) RETURN COUNT(*)", "195");
        h.due("MATCH (a) WITH a LIMIT 14 MATCH (b) RETURN COUNT(*)", "error 1 in 2");
        House exact = new House("200 ROWS");
        exact.due(nodes(20), "done");
        exact.due("MATCH (a) WITH a LIMIT 10 MATCH (b) RETURN COUNT(*)", "200");
        exact.due("MATCH (a) WITH a LIMIT 10 MATCH (b) RETURN a,b SKIP 199", "N9,N19");
    }

    private static void optionalRows() {
        House h = new House("ROWS of OPTIONAL");
        h.due(nodes(20), "done");
        h.due("MATCH (a) WITH a LIMIT 10 OPTIONAL MATCH (b) WHERE ID(a)=0 RETURN COUNT(*)", "29");
        h.due("MATCH (a) WITH a LIMIT 10 MATCH (b) OPTIONAL MATCH (c:C) RETURN COUNT(*)", "200");
        h.due("MATCH (a),(b) WHERE ID(b)<9 WITH a,b OPTIONAL MATCH (c:C) RETURN COUNT(*)", "error 1 in 0");
        h.due("MATCH (a) WITH a LIMIT 9 MATCH (b) WITH a,b OPTIONAL MATCH (c) WHERE ID(a)=0 AND ID(b)=0 RETURN COUNT(*)",
            "error 1 in 4");
        String line = "MATCH (a) WHERE ID(a)=0 CREATE (a)-[:T]->(a),(a)-[:T]->(a),(a)-[:T]->(a),(a)-[:T]->(a),(a)-[:T]->(a)";
        for (int i = 0; i < 4; i++) {
            h.due(line, "done");
        }
        h.due("MATCH (a) WITH a LIMIT 9 MATCH (b) WITH a,b OPTIONAL MATCH (c) WHERE FALSE RETURN 1", "error 1 in 4");
        h.due("MATCH (a) WITH a LIMIT 9 MATCH (b) WITH a,b LIMIT 180 OPTIONAL MATCH (a)-[r]->(a) WHERE ID(b)<1 RETURN COUNT(*)",
            "error 1 in 4");
        h.due("MATCH (a) WHERE ID(a)<9 WITH a OPTIONAL MATCH (a)-[r]->(a) RETURN COUNT(*),COUNT(r)", "28,20");
        h.due("MATCH (a) WITH a LIMIT 9 MATCH (b) WHERE ID(b)=0 MATCH (b)-[r]->(b) RETURN COUNT(*)", "180");
        h.due("MATCH (b)-[r]->(b),(a) WHERE ID(a)<1 OPTIONAL MATCH (c) WHERE ID(r)=0 RETURN COUNT(*)", "error 1 in 0");
        h.due("MATCH (a) WITH a LIMIT 10 MATCH (b) WHERE ID(b)<18 OR ID(a)<1 WITH a,b OPTIONAL MATCH (a)-[r]->(a) "
            + "WHERE ID(r)<1 AND ID(b)<1 RETURN COUNT(*)", "error 1 in 4");
        h.due("MATCH (a) WITH a LIMIT 10 MATCH (b) WITH a,b LIMIT 181 WHERE ID(a)>0 OR ID(b)<2 OPTIONAL MATCH (a)-[r]->(a) "
            + "WHERE ID(b)<1 RETURN COUNT(*)", "182");
        h.due("MATCH (a) WITH a LIMIT 9 MATCH (b) OPTIONAL MATCH (a)-[r]->(a{z:1}) RETURN COUNT(*)", "180");
        h.due("MATCH (a) WITH a LIMIT 10 MATCH (b) WITH a,b SKIP 19 OPTIONAL MATCH (a)-[r]->(a) WHERE ID(b)=19 "
            + "RETURN COUNT(*)", "200");
        h.due("MATCH (a) WITH a LIMIT 10 MATCH (b) WITH a,b SKIP 18 OPTIONAL MATCH (a)-[r]->(a) WHERE ID(b)=19 "
            + "RETURN COUNT(*)", "error 1 in 4");
        h.due("MATCH (b)-[r]->(b) WITH b,r LIMIT 9 OPTIONAL MATCH (c) WHERE ID(r)<>0 OR ID(c)<0 RETURN COUNT(*)", "161");
    }

    private static void nodes() {
        House h = new House("NODES");
        h.due(nodes(60), "done");
        h.due(nodes(5), "error 6 in 0");
        h.due("state", h.state("023"), "60 61 61");
        h.due(nodes(4), "done");
        h.due("node 63", h.node(63, 0), 0);
        h.due("CREATE ()", "error 6 in 0");
        h.due("MATCH (a) WHERE ID(a)=7 DELETE a CREATE (b)", "error 6 in 2");
        h.due("MATCH (a) WHERE ID(a)=7 DELETE a", "done");
        h.due("CREATE (a) RETURN a", "N7");
    }

    private static void relationships() {
        House h = new House("RELATIONSHIPS");
        h.due(nodes(8), "done");
        h.due("MATCH (a),(b) CREATE (a)-[:T]->(b)", "done");
        h.due("MATCH (a),(b) CREATE (a)-[:T]->(b)", "error 6 in 1");
        h.due("state", h.state("01"), "8 64");
        h.due("MATCH (a),(b) WHERE ID(a)<4 CREATE (a)-[:S]->(b)", "done");
        h.due("relationship 95", h.relationship(95, 0) + " " + h.relationship(95, 1), "3 7");
        h.due("MATCH (a) WITH a LIMIT 1 CREATE (a)-[:T]->(b)", "error 6 in 2");
        h.due("MATCH ()-[r:S]->() DELETE r WITH COUNT(*) AS n CREATE (a)-[r:T]->(b)", "error 6 in 3");
        h.due("degree", h.ask("MATCH (a) WHERE ID(a)=0 RETURN DEGREE(a)"), "" + (15 + 11));
        h.due("state", h.state("01"), "8 96");
    }

    private static void work() {
        House h = new House("WORK");
        h.due(nodes(14), "done");
        for (int i = 0; i < 12; i++) {
            h.due("MATCH (a),(b) WITH 1 AS c WITH c WITH c WITH c WITH c WITH c RETURN COUNT(*)", "196");
        }
        for (int i = 0; i < 3; i++) {
            h.due("MATCH (a),(b) RETURN COUNT(*)", "196");
        }
        h.due("WORK", h.state(6), 1 + 12 * 8 * 196 + 3 * 2 * 196);
        h.due("MATCH (a),(b) RETURN COUNT(*)", "error 10 in 0");
        h.due("WORK", h.state(6), 20000);
        h.due("RETURN 1", "error 10 in 0");
        h.due("CREATE ()", "error 10 in 0");
        h.due("MATCH (a:Z) RETURN 1", "done");
        h.due("MATCH (a:Z) RETURN COUNT(*)", "0");
        h.due("OPTIONAL MATCH (a:Z) MATCH (a) RETURN 1", "done");
        h.due("OPTIONAL MATCH (a:Z) RETURN a", "error 10 in 1");
        h.due("RETURN 1 1", "fault 2 at 9");
        h.due("state", h.state("0236"), "14 15 15 20000");
        h.due("recover", h.recover(), 1);
        h.due("WORK stays", h.state(6), 20000);
        House two = new House("two at once");
        two.due(nodes(20), "done");
        for (int i = 0; i < 15; i++) {
            two.due("MATCH (a) WITH a LIMIT 10 MATCH (b) WITH 1 AS c WITH c WITH c WITH c RETURN COUNT(*)", "200");
        }
        for (int i = 0; i < 2; i++) {
            two.due("MATCH (a) WITH a LIMIT 10 MATCH (b) RETURN COUNT(*)", "200");
        }
        for (int i = 0; i < 7; i++) {
            two.due("MATCH (a) RETURN a LIMIT 1", "N0");
        }
        two.due("MATCH (a) WHERE ID(a)<19 RETURN 1 LIMIT 1", "1");
        two.due("WORK", two.state(6), 19800);
        two.due("MATCH (a),(b) RETURN 1", "error 1 in 0");
        two.due("WORK", two.state(6), 20000);
        two.due("MATCH (a),(b) RETURN 1", "error 10 in 0");
    }

    private static void wholeOrNotAtAll() {
        House h = new House("whole or not at all");
        h.due("CREATE (a:A:B{k:1,j:'x'})-[r:T{w:1}]->(b:B)", "done");
        h.due("MATCH (a:A)-[r]->(b) SET a.k=2,a.z=3,a:C,r.w=NULL REMOVE a:B,a.j CREATE (c)-[:S]->(a) DETACH DELETE b "
            + "RETURN 1/0", "error 4 in 5");
        h.due("state", h.state("0123"), "2 1 10 10");
        h.due("MATCH (a:A:B)-[r:T]->(b:B) RETURN a.k,a.j,a.z,a:C,r.w,DEGREE(a)", "1,'x',null,false,1,1");
        h.due("CREATE (c) RETURN c", "N2");
    }
}
