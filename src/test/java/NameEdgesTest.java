/** The edges of what is KNOWN where: FAULTS 4 and 6, and the NAMES of columns. */
public final class NameEdgesTest {
    public static void main(String[] args) {
        usedInX();
        usedElsewhere();
        madeByLinks();
        madeByShortest();
        madeByEnds();
        madeByItems();
        ninthOfEnds();
        ninthOfLinksAndShortest();
        ninthOfCreate();
        eightAgainAndAgain();
        fromLeftToRight();
        withinProperties();
        behindWith();
        orderByAndWhere();
        columns();
        itemsOfWith();
        House.end();
    }

    private static void usedInX() {
        String[] uses = {"^x", "^x.k", "^x:A", "1+^x", "(^x)", "ID(^x)", "COALESCE(1,^x.k)", "NOT ^x", "-^x", "1=^x", "^x IS NULL"};
        for (String use : uses) {
            House.dueFault(4, "RETURN " + use);
            House.dueFault(4, "WITH 1 AS a RETURN " + use);
            House.dueFault(4, "WITH " + use + " AS a RETURN 1");
            House.dueFault(4, "RETURN 1 AS a ORDER BY " + use);
            House.dueFault(4, "MATCH (a) WHERE " + use + " RETURN 1");
            House.dueFault(4, "WITH 1 AS a WHERE " + use + " RETURN 1");
            House.dueFault(4, "MATCH (a{k:" + use + "}) RETURN 1");
            House.dueFault(4, "MATCH (a)-[{k:" + use + "}]-(b) RETURN 1");
            House.dueFault(4, "CREATE (a{k:" + use + "})");
            House.dueFault(4, "CREATE (a)-[:T{k:" + use + "}]->(b)");
            House.dueFault(4, "CREATE (a) SET a.k=" + use);
        }
        String[] aggregates = {"COUNT", "SUM", "MIN", "MAX"};
        for (String aggregate : aggregates) {
            House.dueFault(4, "RETURN " + aggregate + "(^x)");
            House.dueFault(4, "RETURN " + aggregate + "(DISTINCT ^x)");
        }
        House.dueAlone("CREATE (x) RETURN x,x.k AS k,x:A AS l ORDER BY x,x.k", "N0,null,false");
    }

    private static void usedElsewhere() {
        House.dueFault(4, "CREATE (a) DELETE ^x");
        House.dueFault(4, "CREATE (a) DELETE a,^x");
        House.dueFault(4, "CREATE (a) DETACH DELETE ^x");
        House.dueFault(4, "CREATE (a) SET ^x.k=1");
        House.dueFault(4, "CREATE (a) SET a.k=1,^x:A");
        House.dueFault(4, "CREATE (a) REMOVE ^x.k");
        House.dueFault(4, "CREATE (a) REMOVE a.k,^x:A");
        House.dueFault(4, "DELETE ^x");
        House.dueAlone("CREATE (a) SET a.k=1,a:A REMOVE a.k,a:A DELETE a", "done");
    }

    private static void madeByLinks() {
        House.dueAlone("MATCH (a)-[r]-(b) RETURN r", "done");
        House.dueFault(4, "MATCH (a)-[^a]-(b) RETURN 1");
        House.dueFault(4, "MATCH (a)-[r]-(b)-[^r]-(c) RETURN 1");
        House.dueFault(4, "MATCH (a)-[r]-(b),(c)-[^b]-(d) RETURN 1");
        House.dueFault(4, "MATCH p=SHORTEST (a)--(b),(c)-[^p]-(d) RETURN 1");
        House.dueFault(4, "MATCH (a)-[r]-(b) MATCH (c)-[^r]-(d) RETURN 1");
        House.dueFault(4, "MATCH (a) MATCH (c)-[^a]-(d) RETURN 1");
        House.dueFault(4, "WITH 1 AS r MATCH (c)-[^r]-(d) RETURN 1");
        House.dueFault(4, "MATCH (r) OPTIONAL MATCH (c)-[^r]-(d) RETURN 1");
        House.dueAlone("MATCH (r) WITH r AS a MATCH (c)-[r]-(d) RETURN 1", "done");
        House.dueAlone("CREATE (a)-[r:T]->(b) RETURN r", "R0");
        House.dueFault(4, "CREATE (a)-[^a:T]->(b)");
        House.dueFault(4, "CREATE (a)-[r:T]->(b)-[^r:T]->(c)");
        House.dueFault(4, "CREATE (a),(b)-[^a:T]->(c)");
        House.dueFault(4, "CREATE (a) CREATE (b)-[^a:T]->(c)");
        House.dueFault(4, "MATCH (a)-[r]-(b) CREATE (b)-[^r:T]->(c)");
    }

    private static void madeByShortest() {
        House.dueAlone("MATCH p=SHORTEST (a)--(b) RETURN p", "done");
        House.dueFault(4, "MATCH (p) MATCH ^p=SHORTEST (a)--(b) RETURN p");
        House.dueFault(4, "MATCH (p),^p=SHORTEST (a)--(b) RETURN p");
        House.dueFault(4, "MATCH ()-[p]-(),^p=SHORTEST (a)--(b) RETURN p");
        House.dueFault(4, "MATCH p=SHORTEST (a)--(b),^p=SHORTEST (c)--(d) RETURN p");
        House.dueFault(4, "WITH 1 AS p MATCH ^p=SHORTEST (a)--(b) RETURN p");
    }

    private static void madeByEnds() {
        House.dueFault(4, "MATCH (a)-[r]-(^r) RETURN 1");
        House.dueFault(4, "MATCH (a)-[r]-(b),(^r) RETURN 1");
        House.dueFault(4, "MATCH p=SHORTEST (^p)--(b) RETURN 1");
        House.dueFault(4, "MATCH p=SHORTEST (a)--(^p) RETURN 1");
        House.dueFault(4, "MATCH p=SHORTEST (a)--(b),(^p) RETURN 1");
        House.dueFault(4, "CREATE (a)-[r:T]->(^r)");
        House.dueFault(4, "CREATE (a)-[r:T]->(b),(^r)");
        House.dueAlone("MATCH (a)-[r]-(b) MATCH (r) RETURN 1", "done");
        House.dueAlone("MATCH p=SHORTEST (a)--(b) MATCH (p) RETURN 1", "done");
        House.dueAlone("MATCH (a)-[r]-(b) CREATE (r)", "done");
        House.dueAlone("MATCH (a),(a)-[r]-(a) RETURN 1", "done");
        House.dueAlone("CREATE (a),(a)-[:T]->(a),(a)", "done");
        House.dueAlone("CREATE (a) CREATE (a)-[r:T]->(b)", "done");
    }

    private static void madeByItems() {
        House.dueAlone("WITH 1 AS a RETURN a,2 AS b,3 AS c", "1,2,3");
        House.dueFault(4, "WITH 1 AS a RETURN a,^a");
        House.dueFault(4, "WITH 1 AS a RETURN a,2 AS ^a");
        House.dueFault(4, "WITH 1 AS a RETURN 2 AS a,^a");
        House.dueFault(4, "WITH 1 AS a RETURN 2 AS b,3 AS ^b");
        House.dueFault(4, "WITH 1 AS a,2 AS ^a RETURN 1");
        House.dueFault(4, "RETURN 1 AS a,2,3,4,5,COUNT(*) AS ^a");
        House.dueAlone("WITH 1 AS a RETURN a AS b,a,a AS c", "1,1,1");
        House.dueAlone("WITH 1 AS a WITH 2 AS a RETURN 3 AS a", "3");
        House.dueAlone("WITH 1 AS a,2 AS b WITH b AS a,a AS b RETURN a,b", "2,1");
        House.dueAlone("WITH 1 AS a RETURN (a),a,(a)", "1,1,1");
        House.dueAlone("CREATE (a) RETURN a.k,a.k", "null,null");
    }

    private static void ninthOfEnds() {
        String eight = "MATCH (a),(b),(c),(d) MATCH (e),(f),(g),(h) ";
        House.dueAlone(eight + "RETURN 1", "done");
        House.dueAlone(eight + "MATCH (a),(h),() RETURN 1", "done");
        House.dueFault(4, eight + "MATCH (^i) RETURN 1");
        House.dueFault(4, eight + "OPTIONAL MATCH (a)--(^i) RETURN 1");
        House.dueFault(4, eight + "MATCH (^i) MATCH (j) RETURN i");
    }

    private static void ninthOfLinksAndShortest() {
        House.dueAlone("MATCH (a)-[b]-(c)-[d]-(e) MATCH (f)-[g]-(h) RETURN 1", "done");
        String eight = "MATCH (a)-[b]-(c)-[d]-(e) MATCH p=SHORTEST (f)--(g) ";
        House.dueAlone(eight + "RETURN 1", "done");
        House.dueFault(4, eight + "MATCH (a)-[^i]-(b) RETURN 1");
        House.dueFault(4, eight + "MATCH ^q=SHORTEST (a)--(c) RETURN 1");
        House.dueAlone("MATCH (a)-[b]-(c)-[d]-(e) MATCH (f)-[g]-() MATCH p=SHORTEST (a)--(c) RETURN 1", "done");
    }

    private static void ninthOfCreate() {
        House.dueAlone("CREATE (a)-[b:T]->(c)-[d:T]->(e)-[f:T]->(g),(h)", "done");
        House.dueFault(4, "CREATE (a)-[b:T]->(c)-[d:T]->(e)-[f:T]->(g),(h),(^i)");
        House.dueFault(4, "CREATE (a)-[b:T]->(c)-[d:T]->(e)-[f:T]->(g),(h)-[^i:T]->(a)");
        House.dueAlone("CREATE (a)-[b:T]->(c)-[d:T]->(e)-[f:T]->(g),(h),(),(a)-[:T]->()", "done");
        House.dueFault(4, "CREATE (a),(b),(c),(d) CREATE (e),(f),(g),(h) CREATE (^i)");
    }

    private static void eightAgainAndAgain() {
        String eight = "CREATE (a),(b),(c),(d),(e),(f),(g),(h) ";
        House.dueAlone(eight + "WITH a CREATE (b),(c),(d),(e),(f),(g),(i) RETURN a,i", "N0,N14");
        House.dueFault(4, eight + "WITH a CREATE (b),(c),(d),(e),(f),(g),(h),(^i)");
        House.dueAlone(eight + "RETURN 1 AS i,2 AS j,3 AS k,4 AS l,5 AS m,6 AS n", "1,2,3,4,5,6");
        House.dueAlone(eight + "WITH 1 AS i,h RETURN h", "N7");
    }

    private static void fromLeftToRight() {
        House.dueAlone("CREATE (a)-[:T]->(b),(b)-[:T]->(c),(a)-[:T]->(c) RETURN DEGREE(a),DEGREE(b),DEGREE(c)", "2,2,2");
        House.dueFault(4, "MATCH (a) WHERE ^b=1 MATCH (b) RETURN 1");
        House.dueAlone("MATCH (a)-[r]-(b) WHERE a.k=b.k AND r.k=1 RETURN 1", "done");
        House.dueAlone("MATCH p=SHORTEST (a)--(b) WHERE p>1 RETURN p", "done");
    }

    private static void withinProperties() {
        House.dueFault(4, "MATCH (a),(b{k:^a.k}) RETURN 1");
        House.dueFault(4, "MATCH (a{k:^a.k}) RETURN 1");
        House.dueFault(4, "MATCH (a)-[r{k:^a.k}]-(b) RETURN 1");
        House.dueFault(4, "MATCH (a)-[r]-(b{k:^r.k}) RETURN 1");
        House.dueFault(4, "CREATE (a),(b{k:^a.k})");
        House.dueFault(4, "CREATE (a)-[r:T{k:^a.k}]->(b)");
        House.dueAlone("MATCH (a) MATCH (a{k:a.k}),(b{k:a.k})-[r{k:a.k}]-(c{k:a.k}) RETURN 1", "done");
        House.dueAlone("CREATE (a{k:3}) CREATE (b{k:a.k+1})-[r:T{k:a.k+2}]->(c) RETURN b.k,r.k", "4,5");
    }

    private static void behindWith() {
        House.dueFault(4, "CREATE (a),(b) WITH a RETURN ^b");
        House.dueFault(4, "CREATE (a) WITH a AS b RETURN ^a");
        House.dueFault(4, "CREATE (a) WITH a AS b SET ^a.k=1");
        House.dueFault(4, "CREATE (a) WITH a AS b DELETE ^a");
        House.dueFault(4, "CREATE (a) WITH a AS b MATCH (c{k:^a.k}) RETURN 1");
        House.dueAlone("CREATE (a),(b) WITH b AS a RETURN a", "N1");
        House.dueAlone("CREATE (a),(b) WITH a CREATE (b) RETURN a,b", "N0,N2");
        House.dueAlone("CREATE (a) WITH COUNT(*) AS n RETURN n", "1");
    }

    private static void orderByAndWhere() {
        House.dueFault(4, "CREATE (a) RETURN a.k ORDER BY ^a");
        House.dueFault(4, "CREATE (a) RETURN a AS b ORDER BY ^a");
        House.dueAlone("CREATE (a) RETURN a AS b ORDER BY b", "N0");
        House.dueAlone("CREATE (a) RETURN a ORDER BY a.k", "N0");
        House.dueFault(4, "CREATE (a) WITH a AS b ORDER BY ^a RETURN b");
        House.dueFault(4, "CREATE (a) WITH a AS b WHERE ^a.k=1 RETURN b");
        House.dueAlone("CREATE (a) WITH a AS b WHERE b.k IS NULL RETURN b", "N0");
        House.dueAlone("CREATE (a) WITH a AS b,1 AS a WHERE a=1 RETURN b", "N0");
        House.dueFault(4, "RETURN COUNT(*) ORDER BY ^c");
        House.dueAlone("RETURN COUNT(*) AS c ORDER BY c", "1");
    }

    private static void columns() {
        House h = new House("columns");
        h.due("CREATE (a)-[r:T]->(b) RETURN a,r AS s,(b),a.k,-1,COUNT(*) AS n", "N0,R0,N1,null,-1,1");
        String[] names = {"a", "s", "", "", "", "n", ""};
        for (int column = 0; column < names.length; column++) {
            h.due("head(" + column + ")", h.head(column), names[column]);
        }
        h.due("MATCH (a)-[r]->(b) RETURN a:A,COUNT(*),SUM(1) AS a,a.k AS k", "false,1,1,null");
        String[] others = {"", "", "a", "k", ""};
        for (int column = 0; column < others.length; column++) {
            h.due("head(" + column + ")", h.head(column), others[column]);
        }
    }

    private static void itemsOfWith() {
        String[] wrong = {"1", "'a'", "TRUE", "NULL", "-1", "(1)", "NOT TRUE", "1+1", "COUNT(*)", "SUM(1)", "ID(NULL)"};
        for (String item : wrong) {
            House.dueFault(6, "WITH ^" + item + " RETURN 1");
            House.dueFault(6, "WITH 1 AS a,^" + item + " RETURN 1");
            House.dueFault(6, "WITH DISTINCT ^" + item + " RETURN 1");
            House.dueAlone("WITH " + item + " AS a RETURN 1", "1");
        }
        House.dueFault(6, "CREATE (a) WITH ^a.k RETURN 1");
        House.dueFault(6, "CREATE (a) WITH ^a:A RETURN 1");
        House.dueFault(6, "CREATE (a) WITH ^(a) RETURN 1");
        House.dueFault(6, "CREATE (a) WITH ^a+1 RETURN 1");
        House.dueAlone("CREATE (a) WITH a RETURN a", "N0");
        House.dueAlone("CREATE (a) RETURN a.k,(a)", "null,N0");
    }
}
