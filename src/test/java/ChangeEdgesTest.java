/** The edges of CREATE, SET, REMOVE and DELETE: what counts as a CHANGE, what is refused, and what is GONE. */
public final class ChangeEdgesTest {
    private static final String PAIR = "CREATE (a:A{k:1})-[r:T{w:1}]->(b:B)";

    public static void main(String[] args) {
        rowByRow();
        createdChanges();
        createdNull();
        createdThings();
        createdFromLeftToRight();
        createdWithKnownNames();
        xKnowTheRowAsItWas();
        setChanges();
        setNull();
        setNullName();
        setNoThing();
        setInTurn();
        removedChanges();
        deletedChanges();
        deletedNames();
        tiedNodes();
        detached();
        deletedBehindAllRows();
        goneIsSkipped();
        goneInX();
        goneInClauses();
        goneIsWhatItWas();
        goneOnlyInThisStatement();
        House.end();
    }

    private static House house(String name, String statement) {
        House h = new House(name);
        h.due(statement, "done");
        return h;
    }

    /** How many CHANGES a statement makes behind the first one. */
    private static void changes(String first, String statement, int due) {
        House h = new House(statement);
        if (!first.isEmpty()) {
            h.due(first, "done");
        }
        h.begin();
        String answer = h.ask(statement);
        h.due(answer, answer.startsWith("fault") || answer.startsWith("error"), false);
        h.due("CHANGES", h.state(7), due);
        h.due("commit", h.commit(), due == 0 ? 0 : due + 1);
    }

    private static void rowByRow() {
        House h = house("ROW by ROW", House.nodes(3));
        h.due("MATCH (a) CREATE (a)-[r:T]->(b) RETURN a,r,b", "N0,R0,N3|N1,R1,N4|N2,R2,N5");
        h.due("MATCH (a:Z) CREATE (b)", "done");
        h.due("of no ROW", h.state("01"), "6 3");
        h.due("MATCH (a) WHERE ID(a)<2 CREATE (b)-[:T]->(c),(d) RETURN b,c,d", "N6,N7,N8|N9,N10,N11");
    }

    private static void createdChanges() {
        changes("", "CREATE ()", 1);
        changes("", "CREATE (),()", 2);
        changes("", "CREATE (:A)", 2);
        changes("", "CREATE (:A:B:C:D)", 5);
        changes("", "CREATE (:A:A:A)", 2);
        changes("", "CREATE ({k:1})", 2);
        changes("", "CREATE ({k:1,k:2})", 3);
        changes("", "CREATE ({k:1,k:1})", 2);
        changes("", "CREATE ({k:NULL})", 1);
        changes("", "CREATE ()-[:T]->()", 3);
        changes("", "CREATE ()-[:T{k:1,j:2}]->()", 5);
        changes(PAIR, "MATCH (a:A) CREATE (a)", 0);
        changes(PAIR, "MATCH (a:A),(b:B) CREATE (a)-[:T]->(b)", 1);
        changes(PAIR, "MATCH (a:Z) CREATE ()", 0);
        changes("", "RETURN 1", 0);
    }

    private static void createdNull() {
        House h = new House("null is not put");
        h.due("CREATE (a{k:NULL,j:1,j:NULL})-[r:T{k:NULL}]->(b) RETURN a.k,a.j,r.k", "null,1,null");
        h.due("node and relationship", h.node(0) + " " + h.relationship(0), "0 1 1 0 0 1 0");
    }

    private static void createdThings() {
        House h = house("a NODE or RELATIONSHIP as PROPERTY", PAIR);
        String all = h.state("012357");
        h.due("MATCH (a)-[r]->(b) CREATE ({k:a})", "error 2 in 1");
        h.due("MATCH (a)-[r]->(b) CREATE ({k:r})", "error 2 in 1");
        h.due("MATCH (a)-[r]->(b) CREATE (a)-[:T{k:r}]->(b)", "error 2 in 1");
        h.due("nothing is changed", h.state("012357"), all);
    }

    private static void createdFromLeftToRight() {
        House.dueAlone("CREATE (a)-[r:T]->(b)-[s:T]->(c),(d)-[t:T]->(a) RETURN a,r,b,s,c,d", "N0,R0,N1,R1,N2,N3");
        House.dueAlone("CREATE (a)<-[r:T]-(b) RETURN a,r,b", "N0,R0,N1");
        String tooMany = "{a:1,b:2,c:3,d:4,e:5,f:6,g:7}";
        House.dueAlone("CREATE (:A:B:C:D:E{k:1/0})", "error 6 in 0");
        House.dueAlone("CREATE ({k:1/0})-[:T{k:'a'+1}]->(:A:B:C:D:E)", "error 4 in 0");
        House.dueAlone("CREATE ()-[:T{k:'a'+1}]->(:A:B:C:D:E)", "error 6 in 0");
        House.dueAlone("CREATE ()-[:T{k:'a'+1}]->(),(:A:B:C:D:E)", "error 2 in 0");
        House.dueAlone("CREATE (" + tooMany + "),({k:1/0})", "error 6 in 0");
        House.dueAlone("CREATE ({k:1/0}),(" + tooMany + ")", "error 4 in 0");
        House.dueAlone("WITH NULL AS n CREATE ({k:1/0}),(n)", "error 4 in 1");
        House.dueAlone("WITH NULL AS n CREATE (n),({k:1/0})", "error 2 in 1");
        House.dueAlone("WITH NULL AS n CREATE ({k:1/n})-[:T{k:1/0}]->(n)", "error 2 in 1");
    }

    private static void createdWithKnownNames() {
        String[] values = {"NULL", "1", "'a'", "TRUE", "999999999999999999", "'~~~~~~~~~~~~'"};
        for (String value : values) {
            House.dueAlone("WITH " + value + " AS x CREATE (x)", "error 2 in 1");
            House.dueAlone("WITH " + value + " AS x CREATE (a)-[:T]->(x)", "error 2 in 1");
        }
        House.dueAlone("CREATE (a)-[r:T]->(b) CREATE (r)", "error 2 in 1");
        House.dueAlone("CREATE (a)-[r:T]->(b) CREATE (a)", "done");
        House.dueAlone("CREATE (a) CREATE (a)-[:T]->(a) RETURN DEGREE(a)", "1");
    }

    private static void xKnowTheRowAsItWas() {
        House h = house("X know the ROW as it was", PAIR);
        h.due("MATCH (a:A) CREATE (c{k:a.k+1})-[s:T{k:a.k+2}]->(d{k:a.k+3}) RETURN c.k,s.k,d.k", "2,3,4");
        h.due("MATCH (a) WITH COUNT(*) AS n CREATE (c{k:n}) RETURN c.k", "4");
    }

    private static void setChanges() {
        changes(PAIR, "MATCH (a:A) SET a.k=1", 0);
        changes(PAIR, "MATCH (a:A) SET a.k=2", 1);
        changes(PAIR, "MATCH (a:A) SET a.k='1'", 1);
        changes(PAIR, "MATCH (a:A) SET a.j=1", 1);
        changes(PAIR, "MATCH (a:A) SET a.k=2,a.k=1", 2);
        changes(PAIR, "MATCH (a:A) SET a.k=NULL", 1);
        changes(PAIR, "MATCH (a:A) SET a.j=NULL", 0);
        changes(PAIR, "MATCH (a:A) SET a:A", 0);
        changes(PAIR, "MATCH (a:A) SET a:C", 1);
        changes(PAIR, "MATCH (a:A) SET a:C,a:C", 1);
        changes(PAIR, "MATCH ()-[r]->() SET r.w=1", 0);
        changes(PAIR, "MATCH ()-[r]->() SET r.w=2,r.v=TRUE", 2);
        changes(PAIR, "MATCH (a) SET a.n=0", 2);
    }

    private static void setNull() {
        House h = house("null takes it away", PAIR);
        h.due("MATCH (a)-[r]->(b) SET a.k=NULL,r.w=NULL,b.z=NULL RETURN a.k,r.w,b.z", "null,null,null");
        h.due("node and relationship", h.node(0) + " " + h.relationship(0), "1 0 1 0 0 1 0");
    }

    private static void setNullName() {
        House h = new House("a null NAME");
        h.due("WITH NULL AS n SET n.k=1/0,n:A REMOVE n.k,n:A RETURN n", "null");
        h.due("OPTIONAL MATCH (z:Z) SET z.k='a'+1 RETURN z", "null");
        h.due("of each kind of CHANGE", h.state("0123"), "0 0 0 0");
    }

    private static void setNoThing() {
        String[] values = {"1", "'a'", "TRUE"};
        for (String value : values) {
            House.dueAlone("WITH " + value + " AS x SET x.k=1", "error 2 in 1");
            House.dueAlone("WITH " + value + " AS x SET x.k=1/0", "error 2 in 1");
            House.dueAlone("WITH " + value + " AS x SET x:A", "error 2 in 1");
            House.dueAlone("WITH " + value + " AS x REMOVE x.k", "error 2 in 1");
            House.dueAlone("WITH " + value + " AS x REMOVE x:A", "error 2 in 1");
        }
        House.dueApart("a LABEL of no NODE", PAIR, new String[][] {
            {"MATCH ()-[r]->() SET r:T", "error 2 in 1"},
            {"MATCH ()-[r]->() SET r:A", "error 2 in 1"},
            {"MATCH ()-[r]->() REMOVE r:T", "error 2 in 1"},
            {"MATCH ()-[r]->() DELETE r SET r:T", "error 2 in 2"},
            {"MATCH ()-[r]->() DELETE r SET r.k=1", "error 8 in 2"},
            {"MATCH (a)-[r]->() DELETE r SET r.k=1/0", "error 8 in 2"},
            {"MATCH (a)-[r]->() SET a.k=1/0", "error 4 in 1"},
            {"MATCH (a)-[r]->() SET a.k=a", "error 2 in 1"},
            {"MATCH (a)-[r]->() SET r.k=r", "error 2 in 1"},
        });
    }

    private static void setInTurn() {
        House h = house("CHANGE by CHANGE", PAIR);
        h.due("MATCH (a:A) SET a.k=a.k+1,a.j=a.k,a.k=a.j*10 RETURN a.k,a.j", "20,2");
        h.due("ROW by ROW", h.ask("MATCH (a:A) MATCH (x) SET a.k=a.k+1 RETURN a.k"), "22|22");
        h.due("MATCH (a:A) SET a.k=0,a.k=1/a.k", "error 4 in 1");
        h.due("done whole or not at all", h.ask("MATCH (a:A) RETURN a.k"), "22");
    }

    private static void removedChanges() {
        changes(PAIR, "MATCH (a:A) REMOVE a.k", 1);
        changes(PAIR, "MATCH (a:A) REMOVE a.k,a.k", 1);
        changes(PAIR, "MATCH (a:A) REMOVE a.j", 0);
        changes(PAIR, "MATCH (a:A) REMOVE a:A", 1);
        changes(PAIR, "MATCH (a:A) REMOVE a:C", 0);
        changes(PAIR, "MATCH ()-[r]->() REMOVE r.w,r.v", 1);
    }

    private static void deletedChanges() {
        changes(PAIR, "MATCH ()-[r]->() DELETE r", 1);
        changes(PAIR, "MATCH (a)-[r]->(b) DELETE a,r,b", 3);
        changes(PAIR, "MATCH (a)-[r]->(b) DELETE r,r,r", 1);
        changes(PAIR, "MATCH (a:A) DETACH DELETE a", 2);
        changes(PAIR, "MATCH (a) DETACH DELETE a", 3);
        changes("CREATE (:A:B{k:1,j:2})", "MATCH (a) DELETE a", 1);
        changes(PAIR, "MATCH (z:Z) DELETE z", 0);
        changes("", "CREATE (a) DELETE a", 2);
    }

    private static void deletedNames() {
        String[] values = {"1", "'a'", "TRUE"};
        for (String value : values) {
            House.dueAlone("WITH " + value + " AS x DELETE x", "error 2 in 1");
            House.dueAlone("WITH " + value + " AS x DETACH DELETE x", "error 2 in 1");
        }
        House.dueAlone("WITH NULL AS n DELETE n RETURN n", "null");
        House h = house("null and things", PAIR);
        h.due("MATCH (a:A)-[r]->() OPTIONAL MATCH (z:Z) DELETE z,r,a RETURN z,r,a", "null,R0,N0");
        h.due("state", h.state("01"), "1 0");
    }

    private static void tiedNodes() {
        House.dueApart("a NODE that still has RELATIONSHIPS", PAIR, new String[][] {
            {"MATCH (a:A) DELETE a", "error 7 in 1"},
            {"MATCH (b:B) DELETE b", "error 7 in 1"},
            {"MATCH (a),(b) DELETE a,b", "error 7 in 1"},
            {"MATCH (a)-[r]->(b) DELETE a,r RETURN a", "N0"},
            {"MATCH (a)-[r]->(b) DELETE b,r,a RETURN a", "N0"},
            {"MATCH (a)-[r]->(b) DELETE r DELETE a,b RETURN a", "N0"},
        });
        House round = house("one that it has as both", "CREATE (a)-[:T]->(a)");
        round.due("MATCH (a) DELETE a", "error 7 in 1");
        round.due("nothing is changed", round.state("0123"), "1 1 3 3");
        round.due("MATCH (a)-[r]->(a) DELETE a,r", "done");
        round.due("state", round.state("01"), "0 0");
    }

    private static void detached() {
        House h = house("DETACH", "CREATE (a:A)-[:T]->(b)-[:T]->(c),(a)-[:T]->(a),(c)-[:T]->(a)");
        h.due("MATCH (a:A) DETACH DELETE a", "done");
        h.due("its own RELATIONSHIPS alone", h.state("01"), "2 1");
        h.due("relationship(1)", h.relationship(1), "1 2 0");
        h.due("of a NODE without any", h.ask("CREATE (x) DETACH DELETE x RETURN x"), "N0");
        h.due("a RELATIONSHIP", h.ask("MATCH ()-[r]->() DETACH DELETE r RETURN r"), "R1");
        h.due("its NODES stay", h.state("01"), "2 0");
    }

    private static void deletedBehindAllRows() {
        House h = house("behind all ROWS", "CREATE (a)-[:T]->(b)-[:T]->(c)");
        h.due("an ERROR of a later ROW", h.ask("MATCH (a) WITH a,1 AS n WITH COALESCE(a,n) AS x,n DELETE x,n"), "error 2 in 3");
        h.due("all of them", h.ask("MATCH (a)-[r]->(b) DELETE a,b,r RETURN a"), "N0|N1");
        h.due("state", h.state("01"), "0 0");
    }

    private static void goneIsSkipped() {
        House.dueApart("GONE is skipped", PAIR, new String[][] {
            {"MATCH (a)-[r]->(b) DELETE r DELETE r DELETE a DELETE a,r RETURN a,r", "N0,R0"},
            {"MATCH (a:A)-[r]->(b) DETACH DELETE a DELETE r,a RETURN a,r", "N0,R0"},
            {"MATCH (a)-[r]->(b) DETACH DELETE a,r,b DETACH DELETE a,b RETURN a,b", "N0,N1"},
        });
        changes(PAIR, "MATCH (a)-[r]->(b) DELETE r DELETE r,a DELETE r,a", 2);
    }

    private static void goneInX() {
        String gone = "MATCH (a:A)-[r]->(b) DETACH DELETE a ";
        House.dueApart("GONE in X", PAIR, new String[][] {
            {gone + "RETURN a.k", "error 8 in 2"},
            {gone + "RETURN a.z", "error 8 in 2"},
            {gone + "RETURN r.w", "error 8 in 2"},
            {gone + "RETURN a:A", "error 8 in 2"},
            {gone + "RETURN r:T", "error 8 in 2"},
            {gone + "RETURN TYPE(r)", "error 8 in 2"},
            {gone + "RETURN DEGREE(a)", "error 8 in 2"},
            {gone + "RETURN DEGREE(b)", "0"},
            {gone + "WITH a WHERE a.k=1 RETURN a", "error 8 in 2"},
            {gone + "RETURN a ORDER BY a.k", "error 8 in 2"},
            {gone + "RETURN TYPE(a)", "error 2 in 2"},
            {gone + "RETURN DEGREE(r)", "error 2 in 2"},
            {gone + "RETURN SIZE(a)", "error 2 in 2"},
            {gone + "RETURN COALESCE(1,a.k)", "error 8 in 2"},
        });
    }

    private static void goneInClauses() {
        String gone = "MATCH (a:A)-[r]->(b) DETACH DELETE a ";
        House.dueApart("GONE in CLAUSES", PAIR, new String[][] {
            {gone + "SET a.k=1", "error 8 in 2"},
            {gone + "SET a.k=NULL", "error 8 in 2"},
            {gone + "SET a:A", "error 8 in 2"},
            {gone + "SET r.w=1", "error 8 in 2"},
            {gone + "SET r:T", "error 2 in 2"},
            {gone + "REMOVE a.z", "error 8 in 2"},
            {gone + "REMOVE a:Z", "error 8 in 2"},
            {gone + "REMOVE r.w", "error 8 in 2"},
            {gone + "CREATE (a)", "error 8 in 2"},
            {gone + "CREATE (a)-[:T]->(b)", "error 8 in 2"},
            {gone + "CREATE (b)-[:T]->(a)", "error 8 in 2"},
            {gone + "CREATE (r)", "error 2 in 2"},
            {gone + "MATCH (a) RETURN 1", "error 8 in 2"},
            {gone + "SET b.k=1 RETURN b.k", "1"},
            {gone + "CREATE (b)-[s:T]->(c) RETURN s,c", "R1,N2"},
        });
    }

    private static void goneIsWhatItWas() {
        String gone = "MATCH (a:A)-[r]->(b) DETACH DELETE a ";
        House.dueApart("GONE is what it was", PAIR, new String[][] {
            {gone + "RETURN a,r,ID(a),ID(r)", "N0,R0,0,0"},
            {gone + "RETURN a=a,a<>b,r IS NULL,COALESCE(a,1)", "true,true,false,N0"},
            {gone + "RETURN COUNT(a),MIN(a),MAX(r)", "1,N0,R0"},
            {gone + "RETURN DISTINCT a,r ORDER BY a,r", "N0,R0"},
            {gone + "WITH a AS x RETURN x", "N0"},
        });
    }

    private static void goneOnlyInThisStatement() {
        House h = house("GONE only in this statement", PAIR);
        h.begin();
        h.due("MATCH (a:A)-[r]->(b) DETACH DELETE a RETURN a,r", "N0,R0");
        h.due("CREATE (a)-[r:S]->(a) RETURN a,r,TYPE(r),DEGREE(a)", "N0,R0,'S',1");
        h.due("MATCH (a) RETURN a,a.k", "N0,null|N1,null");
        h.due("rollback", h.rollback(), true);
        h.due("MATCH (a:A)-[r]->(b) RETURN a.k,TYPE(r)", "1,'T'");
    }
}
