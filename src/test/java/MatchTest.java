/** Promise 3: MATCH and OPTIONAL MATCH, their ways and the order of these. */
public final class MatchTest {
    public static void main(String[] args) {
        ends();
        links();
        chains();
        shortest();
        severalPatterns();
        properties();
        known();
        where();
        optional();
        gone();
        House.end();
    }

    /** 0 -T-> 1 -T-> 2 -T-> 3, 0 -S-> 2, 3 -S-> 3, 2 -T-> 0; 4 alone. */
    private static House graph(String name) {
        House h = new House(name);
        h.due("CREATE (a:A{k:0}),(b:A:B{k:1}),(c:B{k:2}),(d{k:3}),(:A{k:4}),(a)-[:T{w:1}]->(b)-[:T{w:2}]->(c)"
            + "-[:T{w:3}]->(d),(a)-[:S{w:1}]->(c),(d)-[:S]->(d),(c)-[:T]->(a)", "done");
        h.due("state", h.state("01"), "5 6");
        return h;
    }

    private static void ends() {
        House h = graph("ENDS");
        h.due("MATCH (a) RETURN a", "N0|N1|N2|N3|N4");
        h.due("MATCH (a:A) RETURN a", "N0|N1|N4");
        h.due("MATCH (a:A:B) RETURN a", "N1");
        h.due("MATCH (a:B:A:B) RETURN a", "N1");
        h.due("MATCH (a:C) RETURN a", "done");
        h.due("MATCH () RETURN 1", "1|1|1|1|1");
        h.due("MATCH (a),(a) RETURN a", "N0|N1|N2|N3|N4");
        h.due("MATCH (a:A),(a:B) RETURN a", "N1");
        h.due("MATCH (a:B),(b:B) RETURN a,b", "N1,N1|N1,N2|N2,N1|N2,N2");
    }

    private static void links() {
        House h = graph("LINKS");
        h.due("MATCH (a)-[r]->(b) RETURN a,r,b", "N0,R0,N1|N0,R3,N2|N1,R1,N2|N2,R2,N3|N2,R5,N0|N3,R4,N3");
        h.due("MATCH (a)<-[r]-(b) RETURN a,r,b", "N0,R5,N2|N1,R0,N0|N2,R1,N1|N2,R3,N0|N3,R2,N2|N3,R4,N3");
        h.due("MATCH (a:A)-[r]-(b) RETURN a,r,b", "N0,R0,N1|N0,R3,N2|N0,R5,N2|N1,R0,N0|N1,R1,N2");
        h.due("MATCH (a)-[r]-(b) WHERE a=b RETURN a,r", "N3,R4");
        h.due("MATCH (a)-[r:S]->(b) RETURN r", "R3|R4");
        h.due("MATCH (a)-[r:S|T]->(b) RETURN r", "R0|R3|R1|R2|R5|R4");
        h.due("MATCH (a)-[r:U]->(b) RETURN r", "done");
        h.due("MATCH (a)-->(a) RETURN a", "N3");
        h.due("MATCH (a)-->(b)-->(a) RETURN a,b", "N0,N2|N2,N0");
        h.due("MATCH (a)-[r]-(b)-[s]-(a) RETURN r,s", "R3,R5|R5,R3|R3,R5|R5,R3");
        h.due("MATCH (a)-[r]-(b)-[s]-(c) WHERE ID(a)=3 RETURN r,s,c", "R2,R1,N1|R2,R3,N0|R2,R5,N0|R4,R2,N2");
        h.due("MATCH (a{k:0})<--(b)<--(c)<--(d) RETURN b,c,d", "N2,N1,N0");
    }

    private static void chains() {
        House h = graph("chains");
        h.due("MATCH (a)-[*2]->(b) WHERE ID(a)=0 RETURN b", "N2|N3|N0");
        h.due("MATCH (a)-[*1..2]->(b) WHERE ID(a)=0 RETURN b", "N1|N2|N2|N3|N0");
        h.due("MATCH (a)-[:T*1..3]->(b) WHERE ID(a)=0 RETURN b", "N1|N2|N3|N0");
        h.due("MATCH (a)<-[:T*3]-(b) RETURN a,b", "N0,N0|N1,N1|N2,N2|N3,N0");
        h.due("MATCH (a)-[*3]-(b) WHERE ID(a)=3 RETURN b", "N0|N1|N2|N1|N2|N1|N0|N0");
        h.due("MATCH (a:B)-[*2]->(a) RETURN a", "N2");
        h.due("MATCH (a{k:3})-[*1..3]->(b) RETURN b", "N3");
        h.due("MATCH (a)-[r]->(b)-[*1..2]->(c) WHERE ID(r)=3 RETURN b,c", "N2,N3|N2,N0|N2,N3|N2,N1");
    }

    private static void shortest() {
        House h = graph("SHORTEST");
        h.due("MATCH p=SHORTEST (a)-->(b) RETURN a,p,b",
            "N0,1,N1|N0,1,N2|N0,2,N3|N1,2,N0|N1,1,N2|N1,2,N3|N2,1,N0|N2,2,N1|N2,1,N3");
        h.due("MATCH p=SHORTEST (a)<--(b) WHERE ID(a)=3 RETURN p,b", "2,N0|2,N1|1,N2");
        h.due("MATCH p=SHORTEST (a)--(b) WHERE ID(a)=3 RETURN p,b", "2,N0|2,N1|1,N2");
        h.due("MATCH p=SHORTEST (a)-[:T]->(b) WHERE ID(a)=0 RETURN p,b", "1,N1|2,N2|3,N3");
        h.due("MATCH p=SHORTEST (a)-[:T*2..3]->(b) WHERE ID(a)=0 RETURN p,b", "2,N2|3,N3");
        h.due("MATCH p=SHORTEST (a)-[:T*2]->(b) WHERE ID(a)=0 RETURN p,b", "2,N2");
        h.due("MATCH p=SHORTEST (a)-[*2..9]->(b) WHERE ID(a)=0 RETURN p,b", "2,N3");
        h.due("MATCH p=SHORTEST (a:B)-->(b:A) RETURN a,p,b", "N1,2,N0|N2,1,N0|N2,2,N1");
        h.due("MATCH p=SHORTEST (a)--(a) RETURN p", "done");
        h.due("MATCH p=SHORTEST (a{k:4})--(b) RETURN p", "done");
        h.due("MATCH (a)-[r:S]->(b),p=SHORTEST (a)-->(b) RETURN r,p", "R3,1");
        House line = new House("a long way");
        line.due("CREATE (:A)-[:T]->()-[:T]->()-[:T]->()-[:T]->()-[:T]->()-[:T]->()-[:T]->()-[:T]->()-[:T]->(:B)-[:T]->(:C)",
            "done");
        line.due("MATCH p=SHORTEST (a:A)-->(b:B) RETURN p", "9");
        line.due("MATCH p=SHORTEST (a:A)-->(b:C) RETURN p", "done");
        line.due("MATCH p=SHORTEST (a:A)-[*1..8]->(b:B) RETURN p", "done");
    }

    private static void severalPatterns() {
        House h = graph("PATTERNS");
        h.due("MATCH (a)-[r:S]->(b),(c)-[s:S]->(d) RETURN r,s", "R3,R4|R4,R3");
        h.due("MATCH (a)-[r:S]->(b) MATCH (c)-[s:S]->(d) RETURN r,s", "R3,R3|R3,R4|R4,R3|R4,R4");
        h.due("MATCH (a:B),(b)-[r:S]->(c) RETURN a,r", "N1,R3|N1,R4|N2,R3|N2,R4");
        h.due("MATCH (a)-[r]->(b),(b)-[s:S]->(c) RETURN r,s", "R2,R4|R5,R3");
        h.due("MATCH (a:A),(b:A),(c:C) RETURN 1", "done");
    }

    private static void properties() {
        House h = graph("PROPERTIES");
        h.due("MATCH (a{k:1}) RETURN a", "N1");
        h.due("MATCH (a{k:1+1}) RETURN a", "N2");
        h.due("MATCH (a{k:NULL}) RETURN a", "done");
        h.due("MATCH (a{k:'1'}) RETURN a", "done");
        h.due("MATCH (a{j:1}) RETURN a", "done");
        h.due("MATCH (a{k:1,k:1}) RETURN a", "N1");
        h.due("MATCH (a{k:1,k:2}) RETURN a", "done");
        h.due("MATCH ()-[r{w:1}]->() RETURN r", "R0|R3");
        h.due("MATCH ()-[r:S{w:1}]->() RETURN r", "R3");
        h.due("MATCH (a:A) MATCH (b{k:a.k+1}) RETURN a,b", "N0,N1|N1,N2");
        h.due("MATCH (a) MATCH (b{k:a}) RETURN a", "done");
        h.due("MATCH (a:C) MATCH (b{k:1/0}) RETURN a", "done");
        h.due("MATCH (a:A) MATCH (b:C{k:1/0}) RETURN a", "error 4 in 1");
        h.due("WITH 0 AS z MATCH (a{k:1/z}),(b{k:'a'+1}) RETURN 1", "error 4 in 1");
        h.due("WITH 1 AS z MATCH (a{k:1/z}),(b{k:'a'+z}) RETURN 1", "error 2 in 1");
    }

    private static void known() {
        House h = graph("KNOWN");
        h.due("MATCH (a:B) MATCH (a)-[r]->(b) RETURN a,r,b", "N1,R1,N2|N2,R2,N3|N2,R5,N0");
        h.due("MATCH (a:B) MATCH (b)-[r:T]->(a:A) RETURN a,r,b", "N1,R0,N0");
        h.due("WITH NULL AS a MATCH (a) RETURN a", "done");
        h.due("WITH 1 AS a MATCH (a) RETURN a", "done");
        h.due("MATCH ()-[r]->() MATCH (r) RETURN r", "done");
        h.due("MATCH (a:B),(b:B) MATCH (a)-[r]->(b) RETURN a,b,r", "N1,N2,R1");
    }

    private static void where() {
        House h = graph("WHERE");
        h.due("MATCH (a) WHERE a.k>2 RETURN a", "N3|N4");
        h.due("MATCH (a) WHERE 1 RETURN a", "done");
        h.due("MATCH (a) WHERE 'a' RETURN a", "done");
        h.due("MATCH (a) WHERE a RETURN a", "done");
        h.due("MATCH (a) WHERE NULL RETURN a", "done");
        h.due("MATCH (a) WHERE 1/(a.k-3)>=0 RETURN a", "error 4 in 0");
        h.due("MATCH (a),(b),(c),(d) WHERE 1/0=1 RETURN a", "error 1 in 0");
    }

    private static void optional() {
        House h = graph("OPTIONAL");
        h.due("OPTIONAL MATCH (a:C) RETURN a", "null");
        h.due("MATCH (a) OPTIONAL MATCH (a)-[r:S]->(b) RETURN a,r,b",
            "N0,R3,N2|N1,null,null|N2,null,null|N3,R4,N3|N4,null,null");
        h.due("MATCH (a) OPTIONAL MATCH (a)-->(b) WHERE b.k=2 RETURN a,b", "N0,N2|N1,N2|N2,null|N3,null|N4,null");
        h.due("MATCH (a) OPTIONAL MATCH (a)-->(b) RETURN a,b", "N0,N1|N0,N2|N1,N2|N2,N3|N2,N0|N3,N3|N4,null");
        h.due("MATCH (a:C) OPTIONAL MATCH (b) RETURN a,b", "done");
        h.due("OPTIONAL MATCH (a:C) OPTIONAL MATCH (a)-->(b) RETURN a,b", "null,null");
        h.due("OPTIONAL MATCH (a:C) MATCH (a) RETURN a", "done");
        h.due("OPTIONAL MATCH p=SHORTEST (a{k:4})-[]-(b) RETURN p,a,b", "null,null,null");
        h.due("WORK counts ways alone", h.state(6), 50);
    }

    private static void gone() {
        House h = graph("GONE");
        h.due("MATCH (a{k:4}) DELETE a WITH a MATCH (a) RETURN a", "error 8 in 3");
        h.due("MATCH (a{k:4}) DELETE a WITH a MATCH (b{k:1/0}),(a) RETURN a", "error 4 in 3");
        h.due("MATCH (a{k:4}) DELETE a WITH a MATCH (a),(b{k:1/0}) RETURN a", "error 8 in 3");
        h.due("MATCH ()-[r:S]->() DELETE r WITH r MATCH (r) RETURN r", "error 8 in 3");
        h.due("MATCH (a{k:4}) DELETE a WITH a MATCH (b) RETURN a,b", "N4,N0|N4,N1|N4,N2|N4,N3");
    }
}
