/** The edges of MATCH and OPTIONAL MATCH: what is a way, what is none, and in which order ways come. */
public final class MatchEdgesTest {
    public static void main(String[] args) {
        noRows();
        ends();
        noRelationshipTwice();
        roundOnes();
        waysRound();
        types();
        labels();
        properties();
        propertiesThatAreNull();
        propertiesAreLookedAtFirst();
        oneNode();
        knownOfNoNode();
        goneOnes();
        chainLengths();
        chainsInOrder();
        orderOfWays();
        shortestWithinLengths();
        shortestOnes();
        shortestBesideLinks();
        whereOfAnyKind();
        whereBehindAllWays();
        optionalOnes();
        optionalBehindWhere();
        optionalInOrder();
        eightNames();
        House.end();
    }

    private static House house(String name, String statement) {
        House h = new House(name);
        h.due(statement, "done");
        return h;
    }

    private static void noRows() {
        House h = new House("no ROWS");
        h.due("MATCH (a) RETURN a", "done");
        h.due("MATCH (a) MATCH (b) RETURN a", "done");
        h.due("MATCH (a) OPTIONAL MATCH (b) RETURN a,b", "done");
        h.due("MATCH (a) CREATE (b)", "done");
        h.due("NODES", h.state(0), 0);
        h.due("one ROW with none ahead of all", h.ask("CREATE () RETURN 1"), "1");
        h.due("NODES", h.state(0), 1);
        h.due("OPTIONAL MATCH (a:A) RETURN a", "null");
    }

    private static void ends() {
        House h = house("ENDS", House.nodes(3));
        h.due("MATCH () RETURN 1", "1|1|1");
        h.due("MATCH (a) RETURN a", "N0|N1|N2");
        h.due("MATCH (a),(b) WHERE ID(a)<2 AND ID(b)<2 RETURN a,b", "N0,N0|N0,N1|N1,N0|N1,N1");
        h.due("MATCH (a),(a) RETURN a", "N0|N1|N2");
        h.due("MATCH (),(),() RETURN COUNT(*)", "27");
    }

    private static void noRelationshipTwice() {
        House h = house("no RELATIONSHIP twice", "CREATE (a)-[:T]->(b)");
        h.due("MATCH (a)-[r]-(b)-[s]-(c) RETURN r,s", "done");
        h.due("MATCH (a)-[r]-(b),(c)-[s]-(d) RETURN r,s", "done");
        h.due("MATCH (a)-[*2]-(b) RETURN a,b", "done");
        h.due("MATCH (a)-[*1..3]-(b) RETURN a,b", "N0,N1|N1,N0");
        h.due("MATCH (a)-[r]->(b),(c)-[*1]-(d) RETURN r", "done");
        h.due("but of two CLAUSES", h.ask("MATCH (a)-[r]->(b) MATCH (c)-[s]->(d) RETURN r,s"), "R0,R0");
        h.due("MATCH (a)-[r]->(b) CREATE (b)-[:T]->(a)", "done");
        h.due("two", h.ask("MATCH (a)-[r]-(b)-[s]-(c) RETURN a,r,b,s,c"), "N0,R0,N1,R1,N0|N0,R1,N1,R0,N0|N1,R0,N0,R1,N1|N1,R1,N0,R0,N1");
        h.due("MATCH (a)-[r]->(b),(c)-[s]->(d) RETURN r,s", "R0,R1|R1,R0");
    }

    private static void roundOnes() {
        House h = house("from a NODE to itself", "CREATE (a)-[:T]->(a)");
        h.due("MATCH (a)-[r]->(b) RETURN a,r,b", "N0,R0,N0");
        h.due("MATCH (a)<-[r]-(b) RETURN a,r,b", "N0,R0,N0");
        h.due("once without arrow", h.ask("MATCH (a)-[r]-(b) RETURN a,r,b"), "N0,R0,N0");
        h.due("MATCH (a)-[*1..3]-(b) RETURN a,b", "N0,N0");
        h.due("MATCH (a)-[r]-(a) RETURN r", "R0");
        h.due("MATCH p=SHORTEST (a)--(b) RETURN p", "done");
    }

    private static void waysRound() {
        House h = house("ways round", "CREATE (a)-[:T]->(b)");
        h.due("MATCH (a)-[r]->(b) RETURN a,b", "N0,N1");
        h.due("MATCH (a)<-[r]-(b) RETURN a,b", "N1,N0");
        h.due("MATCH (a)-[r]-(b) RETURN a,b", "N0,N1|N1,N0");
        h.due("MATCH (a)-[*1]->(b) RETURN a,b", "N0,N1");
        h.due("MATCH (a)<-[*1]-(b) RETURN a,b", "N1,N0");
        h.due("MATCH (a)-[*1]-(b) RETURN a,b", "N0,N1|N1,N0");
        h.due("MATCH p=SHORTEST (a)-->(b) RETURN a,p,b", "N0,1,N1");
        h.due("MATCH p=SHORTEST (a)<--(b) RETURN a,p,b", "N1,1,N0");
        h.due("MATCH p=SHORTEST (a)--(b) RETURN a,p,b", "N0,1,N1|N1,1,N0");
    }

    private static void types() {
        House h = house("TYPES", "CREATE (a)-[:T]->(b)-[:S]->(c)-[:U]->(d)");
        h.due("any without", h.ask("MATCH (a)-[r]->(b) RETURN r"), "R0|R1|R2");
        h.due("MATCH (a)-[r:S]->(b) RETURN r", "R1");
        h.due("one of those told", h.ask("MATCH (a)-[r:U|T]->(b) RETURN r"), "R0|R2");
        h.due("MATCH (a)-[r:T|T|T]->(b) RETURN r", "R0");
        h.due("MATCH (a)-[r:V]->(b) RETURN r", "done");
        h.due("of a chain, too", h.ask("MATCH (a)-[:T|S*1..3]->(b) RETURN a,b"), "N0,N1|N0,N2|N1,N2");
        h.due("MATCH p=SHORTEST (a)-[:T|S]->(b) RETURN a,p,b", "N0,1,N1|N0,2,N2|N1,1,N2");
    }

    private static void labels() {
        House h = house("LABELS", "CREATE (:A),(:A:B),(:B),()");
        h.due("MATCH (a:A) RETURN a", "N0|N1");
        h.due("all told", h.ask("MATCH (a:A:B) RETURN a"), "N1");
        h.due("MATCH (a:A:A) RETURN a", "N0|N1");
        h.due("MATCH (a:A:B:C) RETURN a", "done");
        h.due("of one NODE that comes twice", h.ask("MATCH (a:A),(a:B) RETURN a"), "N1");
        h.due("of a KNOWN one", h.ask("MATCH (a:A) MATCH (a:B) RETURN a"), "N1");
    }

    private static void properties() {
        House h = house("PROPERTIES", "CREATE (a{k:1,t:'x'})-[:T{w:1}]->(b{k:1})-[:T{w:2,v:TRUE}]->(c{k:'1'})");
        h.due("MATCH (a{k:1}) RETURN a", "N0|N1");
        h.due("each KEY", h.ask("MATCH (a{k:1,t:'x'}) RETURN a"), "N0");
        h.due("MATCH (a{k:1,t:'y'}) RETURN a", "done");
        h.due("of one kind", h.ask("MATCH (a{k:'1'}) RETURN a"), "N2");
        h.due("MATCH (a{k:TRUE}) RETURN a", "done");
        h.due("it has none", h.ask("MATCH (a{j:1}) RETURN a"), "done");
        h.due("MATCH ()-[r{w:1}]->() RETURN r", "R0");
        h.due("MATCH ()-[r:T{w:2,v:TRUE}]->() RETURN r", "R1");
        h.due("MATCH ()-[r{w:2,v:FALSE}]->() RETURN r", "done");
        h.due("X for the old ROW", h.ask("MATCH (a) MATCH (b{k:a.k}) RETURN a,b"), "N0,N0|N0,N1|N1,N0|N1,N1|N2,N2");
        h.due("MATCH (a{k:1}) MATCH (a{k:2}) RETURN a", "done");
    }

    private static void propertiesThatAreNull() {
        House h = house("PROPERTIES that are null", "CREATE (a{k:1})-[:T]->(b)");
        h.due("MATCH (a{k:NULL}) RETURN a", "done");
        h.due("MATCH (a{j:NULL}) RETURN a", "done");
        h.due("MATCH ()-[r{w:NULL}]->() RETURN r", "done");
        h.due("no ERROR for a thing", h.ask("MATCH (a) MATCH (b{k:a}) RETURN a"), "done");
    }

    private static void propertiesAreLookedAtFirst() {
        House h = house("first all X of PROPERTIES", "CREATE (:A)");
        h.due("though no NODE fits", h.ask("MATCH (z:Z{k:1/0}) RETURN z"), "error 4 in 0");
        h.due("MATCH (z:Z),(a{k:1/0}) RETURN z", "error 4 in 0");
        h.due("MATCH (z:Z)-[{k:1/0}]-(a) RETURN z", "error 4 in 0");
        h.due("from left to right", h.ask("MATCH (z{k:'a'+1})-[{k:1/0}]-(a) RETURN z"), "error 2 in 0");
        h.due("MATCH (z)-[{k:1/0}]-(a{k:'a'+1}) RETURN z", "error 4 in 0");
        h.due("MATCH (z{k:1/0,j:'a'+1}) RETURN z", "error 4 in 0");
        h.due("though a KNOWN one is null", h.ask("WITH NULL AS n MATCH (n),(a{k:1/0}) RETURN n"), "error 4 in 1");
        h.due("but not without an old ROW", h.ask("MATCH (z:Z) MATCH (a{k:1/0}) RETURN z"), "done");
        h.due("of OPTIONAL, too", h.ask("OPTIONAL MATCH (z:Z{k:1/0}) RETURN z"), "error 4 in 0");
    }

    private static void oneNode() {
        House h = house("one NODE", "CREATE (a)-[:T]->(b)-[:T]->(a),(b)-[:T]->(c)");
        h.due("that comes twice", h.ask("MATCH (a)-[r]->(b)-[s]->(a) RETURN a,b"), "N0,N1|N1,N0");
        h.due("MATCH (a)-[r]->(a) RETURN a", "done");
        h.due("MATCH (a)-->(b),(b)-->(c) RETURN a,b,c", "N0,N1,N0|N0,N1,N2|N1,N0,N1");
        h.due("that is KNOWN", h.ask("MATCH (a) MATCH (a)-->(b) RETURN a,b"), "N0,N1|N1,N0|N1,N2");
        h.due("two that are KNOWN", h.ask("MATCH (a),(b) MATCH (a)-[r]->(b) RETURN a,r,b"), "N0,R0,N1|N1,R1,N0|N1,R2,N2");
        h.due("MATCH p=SHORTEST (a)--(a) RETURN p", "done");
    }

    private static void knownOfNoNode() {
        House h = house("KNOWN, but no NODE", "CREATE (a)-[:T]->(b)");
        String[] values = {"NULL", "0", "'a'", "TRUE", "999999999999999999", "'~~~~~~~~~~~~'", "-1"};
        for (String value : values) {
            h.due("WITH " + value + " AS x MATCH (x) RETURN x", "done");
            h.due("WITH " + value + " AS x MATCH (a)-->(x) RETURN x", "done");
            String kept = value.equals("TRUE") ? "true" : value.equals("NULL") ? "null" : value;
            h.due("WITH " + value + " AS x OPTIONAL MATCH (x)-->(b) RETURN x,b", kept + ",null");
        }
        h.due("MATCH ()-[r]->() MATCH (r) RETURN r", "done");
        h.due("MATCH ()-[r]->() OPTIONAL MATCH (r)--(b) RETURN r,b", "R0,null");
    }

    private static void goneOnes() {
        String gone = "MATCH (a:A) DELETE a WITH a ";
        House.dueApart("GONE", "CREATE (:A),(:B)-[:T]->(:C)", new String[][] {
            {gone + "MATCH (a) RETURN a", "error 8 in 3"},
            {gone + "OPTIONAL MATCH (b)-->(a) RETURN a", "error 8 in 3"},
            {gone + "MATCH (z:Z),(a) RETURN a", "error 8 in 3"},
            {gone + "MATCH (a{k:1/0}) RETURN a", "error 8 in 3"},
            {gone + "MATCH (b{k:1/0}),(a) RETURN a", "error 4 in 3"},
            {gone + "MATCH (b:B) RETURN a,b", "N0,N1"},
            {gone + "WHERE FALSE MATCH (a) RETURN a", "done"},
            {gone + "MATCH (b) RETURN b", "N1|N2"},
            {"MATCH (a:A) DELETE a WITH ID(a) AS x MATCH (x) RETURN x", "done"},
            {"MATCH (a:A) DELETE a WITH NULL AS x MATCH (x) RETURN x", "done"},
            {"MATCH ()-[r]->() DELETE r WITH r MATCH (r) RETURN r", "error 8 in 3"},
            {"MATCH (b:B)-[r]->(c) DELETE r WITH b OPTIONAL MATCH (b)-->(c) RETURN b,c", "N1,null"},
            {"MATCH (b:B)-[r]->(c) DELETE r WITH b,c OPTIONAL MATCH p=SHORTEST (b)--(c) RETURN b,p", "N1,null"},
        });
    }

    private static void chainLengths() {
        House h = house("chains", "CREATE (a:S)-[:T]->(b)-[:T]->(c)-[:T]->(d)-[:T]->(e:E)");
        h.due("MATCH (a)-[*1]->(b) RETURN a,b", "N0,N1|N1,N2|N2,N3|N3,N4");
        h.due("MATCH (a)-[*2]->(b) RETURN a,b", "N0,N2|N1,N3|N2,N4");
        h.due("MATCH (a)-[*3]->(b) RETURN a,b", "N0,N3|N1,N4");
        h.due("MATCH (a)-[*2..3]->(b) RETURN a,b", "N0,N2|N0,N3|N1,N3|N1,N4|N2,N4");
        h.due("MATCH (a)-[*1..3]->(b) WHERE ID(a)=0 RETURN b", "N1|N2|N3");
        h.due("MATCH (a)<-[*3]-(b) RETURN a,b", "N3,N0|N4,N1");
        h.due("MATCH (a)-[*3]-(b) WHERE ID(a)=2 RETURN b", "done");
        h.due("MATCH (a)-[*2]-(b) WHERE ID(a)=2 RETURN b", "N0|N4");
        h.due("to one alone", h.ask("MATCH (a)-[*1..3]->(b:E) RETURN a"), "N1|N2|N3");
        h.due("MATCH (a)-[*2..3]->(b:E) RETURN a", "N1|N2");
        h.due("MATCH (a)<-[*1..3]-(b:S) RETURN a", "N1|N2|N3");
        h.due("MATCH (a)-[*2]->(b:E) RETURN a", "N2");
        h.due("to a KNOWN one", h.ask("MATCH (b:E) MATCH (a)-[*1..3]-(b) RETURN a"), "N1|N2|N3");
        h.due("and on", h.ask("MATCH (a)-[*1..2]->(b)-[r]->(c:E) RETURN a,b"), "N1,N3|N2,N3");
        h.due("MATCH (a:S)-[r]->(b)-[*1..2]->(c) RETURN c", "N2|N3");
    }

    private static void chainsInOrder() {
        House h = house("chains in order",
            "CREATE (a),(b),(c),(c)-[:T]->(a),(a)-[:T]->(c),(a)-[:T]->(b),(b)-[:T]->(c),(b)-[:T]->(a)");
        h.due("shorter first, then by numbers", h.ask("MATCH (a)-[*1..2]->(b) WHERE ID(a)=0 RETURN b"), "N2|N1|N0|N2|N0");
        h.due("MATCH (a)-[*2]->(b)-[s]->(c) WHERE ID(a)=0 RETURN b,s,c", "N0,R2,N1|N2,R0,N0|N0,R1,N2");
    }

    private static void orderOfWays() {
        House h = house("order of ways", "CREATE (a),(b),(b)-[:T]->(a),(a)-[:T]->(b),(a)-[:T]->(a)");
        h.due("first ENDS, LINK, next ENDS", h.ask("MATCH (a)-[r]-(b) RETURN a,r,b"), "N0,R0,N1|N0,R1,N1|N0,R2,N0|N1,R0,N0|N1,R1,N0");
        h.due("PATTERN by PATTERN", h.ask("MATCH (a)-[r]->(b),(c) RETURN a,r,b,c"),
            "N0,R1,N1,N0|N0,R1,N1,N1|N0,R2,N0,N0|N0,R2,N0,N1|N1,R0,N0,N0|N1,R0,N0,N1");
        h.due("that of the old ROWS", h.ask("MATCH (x) WITH x ORDER BY x DESC MATCH (a)-[r]->(b) RETURN x,r"),
            "N1,R1|N1,R2|N1,R0|N0,R1|N0,R2|N0,R0");
        h.due("a KNOWN second ENDS", h.ask("MATCH (b) WITH b ORDER BY b DESC MATCH (a)-[r]->(b) RETURN b,a,r"),
            "N1,N0,R1|N0,N0,R2|N0,N1,R0");
        h.due("SHORTEST is no LINK in order", h.ask("MATCH p=SHORTEST (a)--(b) RETURN a,p,b"), "N0,1,N1|N1,1,N0");
    }

    private static void shortestWithinLengths() {
        House h = house("SHORTEST within LENGTHS", "CREATE (:A)" + "-[:T]->()".repeat(8) + "-[:T]->(:B)-[:T]->(:C)");
        h.due("9 without", h.ask("MATCH p=SHORTEST (a:A)-->(b:B) RETURN p"), "9");
        h.due("10 without", h.ask("MATCH p=SHORTEST (a:A)-->(b:C) RETURN p"), "done");
        h.due("MATCH p=SHORTEST (a:A)-[*1..9]->(b:B) RETURN p", "9");
        h.due("MATCH p=SHORTEST (a:A)-[*9]->(b:B) RETURN p", "9");
        h.due("MATCH p=SHORTEST (a:A)-[*1..8]->(b:B) RETURN p", "done");
        h.due("1 without", h.ask("MATCH p=SHORTEST (a:B)-->(b:C) RETURN p"), "1");
        h.due("MATCH p=SHORTEST (a:B)-[*2..9]->(b:C) RETURN p", "done");
        h.due("MATCH p=SHORTEST (a:B)-[*1]->(b:C) RETURN p", "1");
        h.due("MATCH p=SHORTEST (a:B)-[*2]->(b:C) RETURN p", "done");
        h.due("MATCH p=SHORTEST (a:A)<--(b:B) RETURN p", "done");
        h.due("MATCH p=SHORTEST (a:B)<--(b:A) RETURN p", "9");
    }

    private static void shortestOnes() {
        House h = house("SHORTEST", "CREATE (a)-[:T]->(b)-[:T]->(c)-[:T]->(d),(a)-[:S]->(d),(e)");
        h.due("a longer way within LENGTHS is none", h.ask("MATCH p=SHORTEST (a)-[*2..9]->(b) WHERE ID(a)=0 RETURN p,b"), "2,N2");
        h.due("of another TYPE", h.ask("MATCH p=SHORTEST (a)-[:T*2..9]->(b) WHERE ID(a)=0 RETURN p,b"), "2,N2|3,N3");
        h.due("the ENDS differ", h.ask("MATCH p=SHORTEST (a)--(b) WHERE ID(a)=0 RETURN p,b"), "1,N1|2,N2|1,N3");
        h.due("no way", h.ask("MATCH p=SHORTEST (a)--(b) WHERE ID(b)=4 RETURN p"), "done");
        h.due("two of them", h.ask("MATCH (a),(b) WHERE ID(a)=0 AND ID(b)=2 MATCH p=SHORTEST (a)-->(b),q=SHORTEST (b)--(a) RETURN p,q"),
            "2,2");
    }

    private static void shortestBesideLinks() {
        House h = house("SHORTEST beside LINKS", "CREATE (a)-[:T]->(b)");
        h.due("by those of other LINKS", h.ask("MATCH (a)-[r]->(b),p=SHORTEST (a)-->(b) RETURN r,p"), "R0,1");
        h.due("ahead of them", h.ask("MATCH p=SHORTEST (a)-->(b),(a)-[r]->(b) RETURN p,r"), "1,R0");
        h.due("by one twice", h.ask("MATCH p=SHORTEST (a)-->(b),q=SHORTEST (a)-->(b) RETURN p,q"), "1,1");
    }

    private static void whereOfAnyKind() {
        House h = house("WHERE", "CREATE (a{k:1})-[:T]->(b)");
        String[] noTruths = {"1", "0", "'TRUE'", "a", "r", "NULL", "FALSE", "a.z", "NOT TRUE", "NULL AND TRUE"};
        for (String x : noTruths) {
            h.due("MATCH (a)-[r]->(b) WHERE " + x + " RETURN a", "done");
            h.due("MATCH (a)-[r]->(b) WITH a,r WHERE " + x + " RETURN a", "done");
        }
        h.due("MATCH (a)-[r]->(b) WHERE TRUE RETURN a", "N0");
        h.due("MATCH (a)-[r]->(b) WITH a WHERE TRUE RETURN a", "N0");
        h.due("but ERRORS within it", h.ask("MATCH (a)-[r]->(b) WHERE 1+TRUE RETURN a"), "error 2 in 0");
    }

    private static void whereBehindAllWays() {
        House h = house("WHERE behind all ways", House.nodes(15));
        h.due("MATCH (a),(b) WHERE 1/0=1 RETURN a", "error 1 in 0");
        h.due("MATCH (a) WHERE 1/0=1 RETURN a", "error 4 in 0");
        h.due("behind those of all old ROWS",
            h.ask("MATCH (a) WITH a LIMIT 2 MATCH (b{k:1/(1-ID(a))}) WHERE 'a'+1 RETURN b"), "error 4 in 2");
        h.due("MATCH (a) WITH a LIMIT 2 MATCH (b) WHERE 1/(14-ID(b))>=0 RETURN b", "error 4 in 2");
        h.due("not without a way", h.ask("MATCH (a:Z) WHERE 1/0=1 RETURN a"), "done");
    }

    private static void optionalOnes() {
        House h = house("OPTIONAL", "CREATE (a{k:1})-[:T]->(b)");
        h.due("OPTIONAL MATCH (z:Z) RETURN z", "null");
        h.due("OPTIONAL MATCH (z:Z)-[r]->(y) RETURN z,r,y", "null,null,null");
        h.due("OPTIONAL MATCH p=SHORTEST (z:Z)-->(y) RETURN p,z,y", "null,null,null");
        h.due("all new NAMES are null", h.ask("MATCH (a{k:1}) OPTIONAL MATCH (a)-[r]->(c),(z:Z) RETURN a,r,c,z"), "N0,null,null,null");
        h.due("a way", h.ask("MATCH (a{k:1}) OPTIONAL MATCH (a)-[r]->(c) RETURN a,r,c"), "N0,R0,N1");
        h.due("no new NAMES", h.ask("MATCH (a{k:1}) OPTIONAL MATCH (a)<--(a) RETURN a"), "N0");
    }

    private static void optionalBehindWhere() {
        House h = house("OPTIONAL behind WHERE", House.nodes(2));
        h.due("MATCH (a) OPTIONAL MATCH (b) WHERE ID(a)=0 RETURN a,b", "N0,N0|N0,N1|N1,null");
        h.due("MATCH (a) OPTIONAL MATCH (b) WHERE FALSE RETURN a,b", "N0,null|N1,null");
        h.due("MATCH (a) OPTIONAL MATCH (b) WHERE ID(b)=ID(a) RETURN a,b", "N0,N0|N1,N1");
        h.due("WHERE does not see the null ones", h.ask("OPTIONAL MATCH (z:Z) WHERE z IS NOT NULL RETURN z"), "null");
    }

    private static void optionalInOrder() {
        House h = house("OPTIONAL in order", "CREATE (a),(b),(c),(d),(d)-[:T]->(a),(b)-[:T]->(a),(b)-[:T]->(c)");
        h.due("MATCH (a) OPTIONAL MATCH (a)-->(b) RETURN a,b", "N0,null|N1,N0|N1,N2|N2,null|N3,N0");
        h.due("MATCH (a) WITH a ORDER BY a DESC OPTIONAL MATCH (a)-->(b) RETURN a,b", "N3,N0|N2,null|N1,N0|N1,N2|N0,null");
    }

    /** The seventh and eighth KNOWN NAME keep what they are, wherever their ROW goes. */
    private static void eightNames() {
        House h = house("eight NAMES", "CREATE (a)-[:T]->(b)-[:T]->(c)");
        String eight = "MATCH (a)-[b]->(c)-[d]->(e) MATCH (f)-[g]->(h) ";
        h.due(eight + "RETURN a,c,e,f,g,h", "N0,N1,N2,N0,R0,N1|N0,N1,N2,N1,R1,N2");
        h.due(eight + "WHERE ID(g)=1 RETURN b,d,f,g,h", "R0,R1,N1,R1,N2");
        h.due(eight + "WHERE ID(g)=0 RETURN b,d,f,g,h", "R0,R1,N0,R0,N1");
        h.due(eight + "MATCH (h) RETURN g,h", "R0,N1|R1,N2");
        h.due(eight + "OPTIONAL MATCH (h)-->(e) RETURN a,g,h", "N0,R0,N1|N0,R1,N2");
        h.due(eight + "WITH h,g ORDER BY h DESC RETURN g,h", "R1,N2|R0,N1");
        h.due("MATCH (a) OPTIONAL MATCH (b)-[c]->(d)-[e]->(f)-[g]->(h) RETURN a,b,c,f,g,h",
            "N0,null,null,null,null,null|N1,null,null,null,null,null|N2,null,null,null,null,null");
        h.due("CREATE (a),(b),(c),(d),(e),(f),(g),(h) MATCH (a) RETURN a,b,f,g,h", "N3,N4,N8,N9,N10");
        h.due("CREATE (a),(b),(c),(d),(e),(f),(g),(h) SET g.k=7,h.k=8 REMOVE f.k RETURN g.k,h.k", "7,8");
    }
}
