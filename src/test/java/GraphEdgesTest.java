/** The edges of THE GRAPH: how many things there are, which numbers they have, how many LABELS and PROPERTIES. */
public final class GraphEdgesTest {
    public static void main(String[] args) {
        nodes();
        nodesOfOneStatement();
        relationships();
        startsAndEnds();
        leastNumberOfNodes();
        leastNumberOfRelationships();
        takenAwayInThisStatement();
        takenAwayInAFullGraph();
        takenAwayByAStatementWithAnError();
        madeAnew();
        labelsThatAreMade();
        labelsThatAreSet();
        propertiesThatAreMade();
        propertiesThatAreSet();
        House.end();
    }

    private static void nodes() {
        House h = new House("64 NODES");
        h.due(House.nodes(63), "done");
        h.due("CREATE (a) RETURN a", "N63");
        h.due("node(63)", h.node(63), "0 0 0 0");
        String all = h.state("012357");
        h.due("CREATE (a) RETURN a", "error 6 in 0");
        h.due("nothing is changed", h.state("012357"), all);
        h.due("MATCH (a) RETURN COUNT(*)", "64");
    }

    private static void nodesOfOneStatement() {
        House h = new House("64 NODES of one statement");
        h.due(House.nodes(65), "error 6 in 0");
        h.due("state", h.state("0123"), "0 0 0 0");
        h.due(House.nodes(64), "done");
        h.due("state", h.state("0123"), "64 0 65 65");
    }

    private static void relationships() {
        House h = new House("96 RELATIONSHIPS");
        h.due(House.nodes(19), "done");
        h.due("MATCH (a) CREATE (a)-[:T]->(a)-[:T]->(a)-[:T]->(a)-[:T]->(a)-[:T]->(a)", "done");
        h.due("state", h.state("01"), "19 95");
        String oneMore = "MATCH (a) WITH a LIMIT 1 CREATE (a)-[r:T]->(a) RETURN r";
        h.due(oneMore, "R95");
        h.due("relationship(95)", h.relationship(95), "0 0 0");
        String all = h.state("012357");
        h.due(oneMore, "error 6 in 2");
        h.due("nothing is changed", h.state("012357"), all);
        h.due("MATCH ()-[r]->() RETURN COUNT(*)", "96");
    }

    private static void startsAndEnds() {
        House h = new House("starts and ends");
        h.due("CREATE (a)-[:T]->(b),(a)<-[:T]-(b),(a)-[:T]->(a)", "done");
        h.due("along", h.relationship(0), "0 1 0");
        h.due("against", h.relationship(1), "1 0 0");
        h.due("round", h.relationship(2), "0 0 0");
        h.due("node(0)", h.node(0), "0 0 2 2");
        h.due("node(1)", h.node(1), "0 0 1 1");
    }

    private static void leastNumberOfNodes() {
        House h = new House("the least number of a NODE");
        h.due(House.nodes(5), "done");
        h.due("MATCH (a) WHERE ID(a)=1 OR ID(a)=3 DELETE a", "done");
        h.due("CREATE (a),(b),(c) RETURN a,b,c", "N1,N3,N5");
        h.due("MATCH (a) WHERE ID(a)=0 DELETE a", "done");
        h.due("CREATE (a) RETURN a", "N0");
        h.due("MATCH (a) WHERE ID(a)=5 DELETE a", "done");
        h.due("CREATE (a) RETURN a", "N5");
    }

    private static void leastNumberOfRelationships() {
        House h = new House("the least number of a RELATIONSHIP");
        h.due("CREATE (a)-[:T]->(a)-[:T]->(a)-[:T]->(a)-[:T]->(a)-[:T]->(a)", "done");
        h.due("MATCH ()-[r]->() WHERE ID(r)=0 OR ID(r)=3 DELETE r", "done");
        h.due("MATCH (a) CREATE (a)-[r:T]->(a)-[s:T]->(a)-[t:T]->(a) RETURN r,s,t", "R0,R3,R5");
    }

    private static void takenAwayInThisStatement() {
        House h = new House("taken away in this statement");
        h.due("CREATE (a)-[:T]->(a),(b)", "done");
        h.due("MATCH (a)-->(a) DETACH DELETE a CREATE (b)-[r:T]->(b) RETURN b,r", "N2,R1");
        h.due("in the next one", h.ask("CREATE (b)-[r:T]->(b) RETURN b,r"), "N0,R0");
        h.due("CREATE (a)-[r:T]->(a) DETACH DELETE a CREATE (b)-[s:T]->(b) RETURN a,r,b,s", "N3,R2,N4,R3");
        h.due("in the next one", h.ask("CREATE (b)-[r:T]->(b) RETURN b,r"), "N3,R2");
        h.begin();
        h.due("MATCH (a) WHERE ID(a)=3 DETACH DELETE a CREATE (b)-[r:T]->(b) RETURN b,r", "N5,R4");
        h.due("in the next one of a TRANSACTION", h.ask("CREATE (b)-[r:T]->(b) RETURN b,r"), "N3,R2");
        h.due("rollback", h.rollback(), true);
        h.due("CREATE (b)-[r:T]->(b) RETURN b,r", "N5,R4");
    }

    private static void takenAwayInAFullGraph() {
        House h = new House("taken away in a full graph");
        h.due(House.nodes(64), "done");
        h.due("MATCH (a) WHERE ID(a)=7 DELETE a CREATE (b) RETURN b", "error 6 in 2");
        h.due("it is there again", h.node(7), "0 0 0 0");
        h.due("MATCH (a) WHERE ID(a)=7 DELETE a", "done");
        h.due("CREATE (b) RETURN b", "N7");
        House full = new House("taken away among 96 RELATIONSHIPS");
        full.due(House.nodes(16), "done");
        full.due("MATCH (a) CREATE (a)-[:T]->(a)-[:T]->(a)-[:T]->(a)-[:T]->(a)-[:T]->(a)-[:T]->(a)", "done");
        full.due("MATCH (a)-[r]->() WHERE ID(r)=9 DELETE r CREATE (a)-[s:T]->(a) RETURN s", "error 6 in 2");
        full.due("it is there again", full.relationship(9), "1 1 0");
        full.due("MATCH ()-[r]->() WHERE ID(r)=9 DELETE r", "done");
        full.due("MATCH (a) WITH a LIMIT 1 CREATE (a)-[s:T]->(a) RETURN s", "R9");
    }

    private static void takenAwayByAStatementWithAnError() {
        House h = new House("taken away by a statement with an ERROR");
        h.due("CREATE (a)-[:T]->(b)", "done");
        h.due("MATCH (a) DETACH DELETE a RETURN 1/0", "error 4 in 2");
        h.due("CREATE (c)-[r:T]->(d) RETURN c,r,d", "N2,R1,N3");
    }

    /** A number that is used again has nothing of what the thing had that was taken away. */
    private static void madeAnew() {
        House h = new House("made anew");
        String six = "{a:1,b:2,c:3,d:4,e:5,f:6}";
        h.due("CREATE (a:A:B:C:D" + six + ")-[r:T" + six + "]->(b)", "done");
        h.due("MATCH (a:A) DETACH DELETE a", "done");
        h.due("CREATE (a)-[r:S]->(b) RETURN a,r,a:A,a:D,a.a,a.f", "N0,R0,false,false,null,null");
        h.due("node(0)", h.node(0), "0 0 1 0");
        h.due("relationship(0)", h.relationship(0), "0 2 0");
        h.due("MATCH (a)-[r]->(b) RETURN r.a,r.f,r:T,r:S,TYPE(r)", "null,null,false,true,'S'");
        h.due("room for six", h.ask("MATCH (a)-[r]->(b) SET a.u=1,a.v=2,a.w=3,a.x=4,a.y=5,a.z=6,r.u=1,r.v=2,r.w=3,r.x=4,r.y=5,r.z=6"),
            "done");
        h.due("and for four", h.ask("MATCH (a)-[r]->(b) SET a:E,a:F,a:G,a:H RETURN a:E,a:H,a.u,a.z,r.u,r.z"), "true,true,1,6,1,6");
    }

    private static void labelsThatAreMade() {
        House h = new House("4 LABELS");
        h.due("CREATE (:A:B:C:D:E)", "error 6 in 0");
        h.due("nothing is made", h.state("0123"), "0 0 0 0");
        h.due("CREATE (:A:B:C:D)", "done");
        h.due("node(0)", h.node(0), "4 0 0 0");
        h.due("CREATE (:A:B:C:D:D:A)", "done");
        h.due("those that it has are none more", h.node(1), "4 0 0 0");
        h.due("CREATE ()", "done");
        h.due("none", h.node(2), "0 0 0 0");
    }

    private static void labelsThatAreSet() {
        House h = new House("4 LABELS that are SET");
        h.due("CREATE (:A:B:C)", "done");
        h.due("MATCH (a) SET a:D,a:E", "error 6 in 1");
        h.due("nothing is changed", h.node(0), "3 0 0 0");
        h.due("MATCH (a) SET a:D RETURN a:D", "true");
        h.due("MATCH (a) SET a:E", "error 6 in 1");
        h.due("MATCH (a) SET a:A,a:D RETURN a:A,a:E", "true,false");
        h.due("MATCH (a) REMOVE a:B SET a:E RETURN a:B,a:E", "false,true");
        h.due("node(0)", h.node(0), "4 0 0 0");
    }

    private static void propertiesThatAreMade() {
        House h = new House("6 PROPERTIES");
        String six = "{a:1,b:2,c:3,d:4,e:5,f:6";
        h.due("CREATE (" + six + ",g:7})", "error 6 in 0");
        h.due("CREATE ()-[:T" + six + ",g:7}]->()", "error 6 in 0");
        h.due("nothing is made", h.state("0123"), "0 0 0 0");
        h.due("CREATE (" + six + "})-[r:T" + six + "}]->() RETURN r.f", "6");
        h.due("node(0)", h.node(0), "0 6 1 0");
        h.due("relationship(0)", h.relationship(0), "0 1 6");
        h.due("CREATE (" + six + ",g:NULL,a:7})-[r:T" + six + ",g:NULL,a:7}]->() RETURN r.a,r.g", "7,null");
        h.due("null and KEYS that it has are none more", h.node(2) + " " + h.relationship(1), "0 6 1 0 2 3 6");
    }

    private static void propertiesThatAreSet() {
        House h = new House("6 PROPERTIES that are SET");
        h.due("CREATE ({a:1,b:2,c:3,d:4,e:5})-[:T{a:1,b:2,c:3,d:4,e:5}]->()", "done");
        String ends = "MATCH (a)-[r]->() ";
        h.due(ends + "SET a.f=6,a.g=7", "error 6 in 1");
        h.due(ends + "SET r.f=6,r.g=7", "error 6 in 1");
        h.due("nothing is changed", h.node(0) + " " + h.relationship(0), "0 5 1 0 0 1 5");
        h.due(ends + "SET a.f=6,r.f=6 RETURN a.f,r.f", "6,6");
        h.due(ends + "SET a.g=7", "error 6 in 1");
        h.due(ends + "SET r.g=7", "error 6 in 1");
        h.due(ends + "SET a.a=7,r.a=7,a.g=NULL,r.g=NULL RETURN a.a,r.a", "7,7");
        h.due(ends + "SET a.b=NULL,r.b=NULL,a.g=8,r.g=8 RETURN a.b,r.b,a.g,r.g", "null,null,8,8");
        h.due("six of each", h.node(0) + " " + h.relationship(0), "0 6 1 0 0 1 6");
    }
}
