/** Promise 3: SET, REMOVE, DELETE and DETACH DELETE. */
public final class ChangeTest {
    public static void main(String[] args) {
        set();
        remove();
        wrongNames();
        delete();
        gone();
        House.end();
    }

    private static void set() {
        House h = new House("SET");
        h.due("CREATE (a:A{k:1})-[r:T]->(b)", "done");
        h.due("MATCH (a:A)-[r]->(b) SET a.k=a.k+1,a.j=a.k,b:B,r.w='x',b.k=NULL RETURN a.k,a.j,b:B,r.w,b.k", "2,2,true,'x',null");
        h.due("writes", h.state(2), 6 + 5);
        h.due("MATCH (a:A) SET a.k=2,a:A,a.z=NULL", "done");
        h.due("nothing was changed", h.state(2), 11);
        h.due("MATCH (a:A) SET a.k=NULL RETURN a.k", "null");
        h.due("properties", h.node(0, 1), 1);
        h.due("MATCH (a:A) SET a.k=1=1 RETURN a.k", "true");
        h.due("MATCH (a:A) SET a.k=a", "error 2 in 1");
        h.due("MATCH (a:A)-[r]->() SET a.k=r", "error 2 in 1");
        h.due("MATCH (a:A) SET a:B,a:C,a:D RETURN a:D", "true");
        h.due("MATCH (a:A) SET a:E", "error 6 in 1");
        h.due("MATCH (a:A) REMOVE a:B SET a:E RETURN a:B,a:E", "false,true");
        h.due("MATCH (a:A) SET a.a=1,a.b=2,a.c=3,a.d=4", "done");
        h.due("properties", h.node(0, 1), 6);
        h.due("MATCH (a:A) SET a.e=5", "error 6 in 1");
        h.due("MATCH (a:A) SET a.d=5,a.d=a.d+1,a.e=NULL RETURN a.d", "6");
        h.due("MATCH (a:A) SET a.d=9,a.d=1/0", "error 4 in 1");
        h.due("it is as it was", h.ask("MATCH (a:A) RETURN a.d"), "6");
        h.due("MATCH (a) SET a.n=ID(a),a.k=NULL,a.j=NULL RETURN a.n", "error 6 in 1");
    }

    private static void remove() {
        House h = new House("REMOVE");
        h.due("CREATE (a:A:B{k:1,j:2})-[r:T{w:1}]->(b)", "done");
        h.due("MATCH (a:A)-[r]->(b) REMOVE a.k,a:B,r.w,b.k,b:B RETURN a.k,a.j,a:A,a:B,r.w", "null,2,true,false,null");
        h.due("writes", h.state(2), 8 + 1 + 4);
        h.due("node", h.node(0, 0) + " " + h.node(0, 1), "1 1");
        h.due("MATCH (a:A) REMOVE a.z,a:Z", "done");
        h.due("writes", h.state(2), 13);
    }

    private static void wrongNames() {
        House h = new House("wrong NAMES");
        h.due("CREATE (a:A)-[r:T]->(b)", "done");
        h.due("WITH NULL AS a SET a.k=1/0,a:B REMOVE a.k,a:B DELETE a RETURN a", "null");
        h.due("WITH 1 AS a SET a.k=1", "error 2 in 1");
        h.due("WITH 'x' AS a SET a:B", "error 2 in 1");
        h.due("WITH TRUE AS a REMOVE a.k", "error 2 in 1");
        h.due("WITH 1 AS a DELETE a", "error 2 in 1");
        h.due("MATCH ()-[r]->() SET r:T", "error 2 in 1");
        h.due("MATCH ()-[r]->() REMOVE r:T", "error 2 in 1");
        h.due("WITH 1 AS a SET a.k=1/0", "error 2 in 1");
    }

    private static void delete() {
        House h = new House("DELETE");
        h.due("CREATE (a:A{k:1})-[r:T{w:1}]->(b:B)-[:T]->(c:C),(d:D),(c)-[:S]->(c)", "done");
        h.due("MATCH (a:A) DELETE a", "error 7 in 1");
        h.due("MATCH (a:C) DELETE a", "error 7 in 1");
        h.due("MATCH (a:D) DELETE a,a RETURN a", "N3");
        h.due("MATCH (a:A)-[r]->(b) DELETE a,r RETURN a,r,b", "N0,R0,N1");
        h.due("state", h.state("01"), "2 2");
        h.due("writes", h.state(2), 4 + 4 + 3 + 2 + 1 + 2 + 3);
        h.due("MATCH (a:C) DETACH DELETE a", "done");
        h.due("state", h.state("01"), "1 0");
        h.due("writes", h.state(2), 19 + 4);
        h.due("MATCH (b:B),(x:X) DELETE b", "done");
        h.due("MATCH (b:B) OPTIONAL MATCH (b)-->(x) DELETE x,b", "done");
        h.due("state", h.state("01"), "0 0");
        h.due("CREATE (a)-[:T]->(b) DELETE a", "error 7 in 1");
        h.due("CREATE (a)-[:T]->(b) DELETE b,a", "error 7 in 1");
        h.due("CREATE (a)-[r:T]->(b) DELETE a,b,r RETURN a,b,r", "N0,N1,R0");
        h.due("CREATE (a)-[r:T]->(b) DETACH DELETE b DELETE a RETURN a,b,r", "N0,N1,R0");
        h.due("writes", h.state(2), 23 + 2 + 7 + 7);
    }

    private static void gone() {
        House h = new House("GONE");
        String make = "CREATE (a:A{k:1})-[r:T{w:1}]->(b) DETACH DELETE a ";
        h.due(make + "RETURN a,r,ID(a),ID(r),a=a,a IS NULL", "N0,R0,0,0,true,false");
        String[] wrong = {"RETURN a.k", "RETURN r.w", "RETURN a:A", "RETURN r:T", "RETURN TYPE(r)", "RETURN DEGREE(a)",
            "SET a.k=1", "SET a:B", "SET r.w=1", "REMOVE a.k", "REMOVE r.w", "REMOVE a:A", "CREATE (a)",
            "CREATE (a)-[:T]->(b)", "MATCH (a)-->(b) RETURN 1", "SET a.k=1/0", "RETURN 1 ORDER BY 1/0"};
        for (int i = 0; i < wrong.length - 1; i++) {
            h.due(make + wrong[i], "error 8 in 2");
        }
        h.due(make + wrong[wrong.length - 1], "error 4 in 2");
        h.due(make + "RETURN TYPE(a)", "error 2 in 2");
        h.due(make + "RETURN DEGREE(r)", "error 2 in 2");
        h.due(make + "SET r:A", "error 2 in 2");
        h.due(make + "DELETE r,a RETURN COUNT(a),MIN(a),MAX(r)", "1,N0,R0");
        h.due(make + "WITH a,b ORDER BY a RETURN DISTINCT a,DEGREE(b)", "N0,0");
    }
}
