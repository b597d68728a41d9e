/** Promises 3, 10 and 11: CREATE, and what node() and relationship() tell of what it made. */
public final class CreateTest {
    public static void main(String[] args) {
        things();
        knownNames();
        properties();
        numbers();
        wrongInputs();
        House.end();
    }

    private static void things() {
        House h = new House("things");
        h.due("CREATE (a:A:B{k:1,j:'x'})-[r:T{w:5}]->(b)<-[s:S]-(c:C),(b)-[:T]->(b) RETURN a,r,b,s,c", "N0,R0,N1,R1,N2");
        h.due("node 0", h.node(0), "2 2 1 0");
        h.due("node 1", h.node(1), "0 0 1 3");
        h.due("node 2", h.node(2), "1 0 1 0");
        h.due("node 3", h.node(3), "-1 -1 -1 -1");
        h.due("relationship 0", h.relationship(0), "0 1 1");
        h.due("relationship 1", h.relationship(1), "2 1 0");
        h.due("relationship 2", h.relationship(2), "1 1 0");
        h.due("relationship 3", h.relationship(3), "-1 -1 -1");
        h.due("MATCH ()-[r]->() RETURN TYPE(r)", "'T'|'T'|'S'");
        h.due("CREATE (a:A:A:A) RETURN a", "N3");
        h.due("node 3", h.node(3), "1 0 0 0");
        h.due("MATCH (a:A) CREATE (a)-[:U]->(b:New) RETURN a,b", "N0,N4|N3,N5");
        h.due("node 0", h.node(0), "2 2 2 0");
        h.due("MATCH (a:Z) CREATE (b)", "done");
        h.due("state", h.state("01"), "6 5");
    }

    private static void knownNames() {
        House h = new House("KNOWN");
        h.due("WITH 1 AS a CREATE (a)", "error 2 in 1");
        h.due("WITH NULL AS a CREATE (a)-[:T]->(b)", "error 2 in 1");
        h.due("CREATE (a)-[r:T]->(b) WITH r CREATE (r)", "error 2 in 2");
        h.due("CREATE (a) DELETE a CREATE (a)-[:T]->(b)", "error 8 in 2");
        h.due("CREATE (a)-[r:T]->(b) DELETE r WITH r CREATE (r)", "error 2 in 3");
        h.due("nothing of all that is left", h.state("012"), "0 0 0");
        h.due("CREATE (a),(b) CREATE (a)<-[:T]-(b) CREATE (a) RETURN DEGREE(a)", "1");
        h.due("relationship 0", h.relationship(0), "1 0 0");
    }

    private static void properties() {
        House h = new House("PROPERTIES");
        h.due("CREATE (a{k:1,j:NULL,k:2,t:TRUE}) RETURN a.k,a.j,a.t", "2,null,true");
        h.due("CHANGES and END", h.state(2), 5);
        h.due("CREATE (a{k:1,k:NULL,k:1}) RETURN a.k", "1");
        h.due("CHANGES and END", h.state(2), 8);
        h.due("MATCH (a{k:2}) CREATE (b{k:a})", "error 2 in 1");
        h.due("MATCH (a{k:2}) CREATE (b{k:a.k+1,j:a.t}) RETURN b,b.k,b.j", "N2,3,true");
        h.due("MATCH (a{k:2}) CREATE (a)-[r:T{d:DEGREE(a)}]->(b{d:DEGREE(a)}) RETURN r.d,b.d", "1,0");
        h.due("CREATE (a{a:1,b:2,c:3,d:4,e:5,f:6}) RETURN a.f", "6");
        h.due("CREATE (a{a:1,b:2,c:3,d:4,e:5,f:6,g:7})", "error 6 in 0");
        h.due("CREATE (a{a:1,b:2,c:3,d:4,e:5,f:6,g:NULL,a:8}) RETURN a.a", "8");
        h.due("CREATE (a{a:1,b:2,c:3,d:4,e:5,f:6,g:1/0})", "error 4 in 0");
        h.due("CREATE (a{a:1,b:2,c:3,d:4,e:5,f:6,g:7,h:1/0})", "error 6 in 0");
        h.due("CREATE (a:A:B:C:D) RETURN a:D", "true");
        h.due("CREATE (a:A:B:C:D:A) RETURN a:D", "true");
        h.due("CREATE (a:A:B:C:D:E{k:1/0})", "error 6 in 0");
    }

    private static void numbers() {
        House h = new House("numbers of things");
        h.due("CREATE (a)-[:T]->(b)-[:T]->(c),(d)", "done");
        h.due("MATCH (a) WHERE ID(a)=1 DETACH DELETE a CREATE (b)-[r:T]->(c) RETURN b,r,c", "N4,R2,N5");
        h.due("CREATE (b)-[r:T]->(c)-[s:T]->(b) RETURN b,c,r,s", "N1,N6,R0,R1");
        House again = new House("numbers that are used again");
        again.due("CREATE (a:A:B{k:1,j:2})-[r:T{w:1,v:2}]->(b)", "done");
        again.due("MATCH (a:A) DETACH DELETE a", "done");
        again.due("CREATE (a)-[r:S]->(b) RETURN a,r,b,a.k,a:A,r.w", "N0,R0,N2,null,false,null");
        again.due("node 0", again.node(0), "0 0 1 0");
        again.due("relationship 0", again.relationship(0), "0 2 0");
        again.due("MATCH ()-[r:T]->() RETURN r", "done");
    }

    private static void wrongInputs() {
        House h = new House("wrong inputs");
        h.due("CREATE (a)-[:T]->(b)", "done");
        int[] wrong = {-1, 64, 96, 160, Integer.MIN_VALUE, Integer.MAX_VALUE};
        for (int n : wrong) {
            h.due("node(" + n + ", 0)", h.node(n, 0), -1);
            h.due("relationship(" + n + ", 0)", h.relationship(n, 0), -1);
        }
        h.due("node(0, 4)", h.node(0, 4), -1);
        h.due("node(0, -1)", h.node(0, -1), -1);
        h.due("relationship(0, 3)", h.relationship(0, 3), -1);
        h.due("relationship(0, -1)", h.relationship(0, -1), -1);
        h.due("node(63, 0)", h.node(63, 0), -1);
        h.due("relationship(95, 0)", h.relationship(95, 0), -1);
    }
}
