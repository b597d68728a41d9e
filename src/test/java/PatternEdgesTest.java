/** The edges of FAULT 5, and which FAULT is the first one of several. */
public final class PatternEdgesTest {
    public static void main(String[] args) {
        knownEndsOfCreate();
        linksOfCreate();
        arrowsOfMatch();
        lengths();
        lengthsOfShortest();
        lengthsWithMore();
        sizeOfPatterns();
        sizeOfLinks();
        sizeOfShortest();
        sizeOfCreate();
        linkOfShortest();
        firstInTheOrderOfTokens();
        leastAtOneToken();
        tokensAheadOfAllElse();
        House.end();
    }

    private static void knownEndsOfCreate() {
        House.dueAlone("CREATE (a),(a)", "done");
        House.dueFault(5, "CREATE (a),^(a:A)");
        House.dueFault(5, "CREATE (a),^(a{k:1})");
        House.dueFault(5, "CREATE (a:A)-[:T]->^(a:A)");
        House.dueFault(5, "MATCH (a) CREATE ^(a:A)");
        House.dueFault(5, "MATCH (a) CREATE (b)-[:T]->^(a{k:1})");
        House.dueFault(5, "WITH 1 AS a CREATE ^(a:A:B{k:1})");
        House.dueAlone("CREATE (a:A{k:1})-[:T]->(a)", "done");
        House.dueAlone("CREATE (a) MATCH (a:A{k:1}) RETURN a", "done");
        House.dueAlone("CREATE (a) WITH 1 AS b CREATE (a:A{k:1})", "done");
    }

    private static void linksOfCreate() {
        House.dueAlone("CREATE (a)-[:T]->(b)<-[r:S{k:1}]-(c)", "done");
        String[] wrong = {"^-->", "^-[]->", "^-[r]->", "^-[{k:1}]->", "^-[:T|S]->", "^-[:T|T]->", "^-[:T*1]->", "^-[:T*1..2]->",
            "^-[:T]-", "^<-[:T]->", "^--", "^<-->", "^<--", "^<-[:T|S]-", "^<-[:T*1]-"};
        for (String link : wrong) {
            House.dueFault(5, "CREATE (a)" + link + "(b)");
            House.dueFault(5, "CREATE (a)-[:T]->(b)" + link + "(c)");
            House.dueFault(5, "CREATE (x),(a)" + link + "(b)-->(c)");
        }
    }

    private static void arrowsOfMatch() {
        String[] right = {"--", "-->", "<--", "-[]-", "-[]->", "<-[]-", "-[r:T|S|U{k:1}]->"};
        for (String link : right) {
            House.dueAlone("MATCH (a)" + link + "(b) RETURN 1", "done");
        }
        House.dueFault(5, "MATCH (a)^<-->(b) RETURN 1");
        House.dueFault(5, "MATCH (a)^<-[r:T]->(b) RETURN 1");
        House.dueFault(5, "MATCH (a)--(b)^<-[*1]->(c) RETURN 1");
        House.dueFault(5, "MATCH p=SHORTEST (a)^<-->(b) RETURN 1");
        House.dueFault(5, "OPTIONAL MATCH (a)^<-->(b) RETURN 1");
    }

    private static void lengths() {
        String[] right = {"1", "2", "3", "1..1", "1..2", "1..3", "2..2", "2..3", "3..3", "001..000000000000003"};
        for (String length : right) {
            House.dueAlone("MATCH (a)-[*" + length + "]-(b) RETURN 1", "done");
            House.dueAlone("MATCH (a)<-[:T|S*" + length + "]-(b) RETURN 1", "done");
        }
        String[] wrong = {"0", "0..0", "0..1", "0..3", "2..1", "3..1", "3..2", "1..0", "4..3", "9..1", "999999999999999999..3"};
        for (String length : wrong) {
            House.dueFault(5, "MATCH (a)-[^*" + length + "]-(b) RETURN 1");
            House.dueFault(5, "MATCH (a)-[:T^*" + length + "]->(b) RETURN 1");
        }
    }

    private static void lengthsOfShortest() {
        String[] right = {"1", "9", "1..9", "9..9", "1..1", "5..7"};
        for (String length : right) {
            House.dueAlone("MATCH p=SHORTEST (a)-[*" + length + "]-(b) RETURN 1", "done");
        }
        String[] wrong = {"0", "10", "0..9", "1..10", "10..10", "9..8", "2..1", "999999999999999999", "1..999999999999999999"};
        for (String length : wrong) {
            House.dueFault(5, "MATCH p=SHORTEST (a)-[^*" + length + "]-(b) RETURN 1");
            House.dueFault(5, "MATCH p=SHORTEST (a)<-[:T^*" + length + "]-(b) RETURN 1");
        }
    }

    private static void lengthsWithMore() {
        House.dueAlone("MATCH (a)-[:T*2]-(b) RETURN 1", "done");
        House.dueFault(5, "MATCH (a)-[r^*2]-(b) RETURN 1");
        House.dueFault(5, "MATCH (a)-[r:T^*1..2]-(b) RETURN 1");
        House.dueFault(5, "MATCH (a)-[^*1{k:1}]-(b) RETURN 1");
        House.dueFault(5, "MATCH (a)-[:T^*1..3{k:1}]-(b) RETURN 1");
        House.dueFault(5, "MATCH (a)-[r^*1{k:1}]-(b) RETURN 1");
        House.dueAlone("MATCH (a)-[r:T{k:1}]-(b) RETURN 1", "done");
    }

    private static void sizeOfPatterns() {
        House.dueAlone("MATCH (),(),(),() RETURN 1", "done");
        House.dueFault(5, "MATCH (),(),(),(),^() RETURN 1");
        House.dueFault(5, "MATCH (),(),(),(),^(),() RETURN 1");
        House.dueAlone("MATCH (),(),(),() MATCH (),(),(),() RETURN 1", "done");
        House.dueFault(5, "MATCH () OPTIONAL MATCH (),(),(),(),^() RETURN 1");
    }

    private static void sizeOfLinks() {
        House.dueAlone("MATCH ()--()--()--() RETURN 1", "done");
        House.dueFault(5, "MATCH ()--()--()--()^--() RETURN 1");
        House.dueFault(5, "MATCH ()--()--()--()^<--() RETURN 1");
        House.dueAlone("MATCH ()--()--(),() RETURN 1", "done");
        House.dueFault(5, "MATCH ()--()--(),()^--() RETURN 1");
        House.dueFault(5, "MATCH ()--()--()--(),^() RETURN 1");
        House.dueAlone("MATCH ()-[*3]-() RETURN 1", "done");
        House.dueFault(5, "MATCH ()^-[*4]-() RETURN 1");
        House.dueFault(5, "MATCH ()^<-[*1..4]-() RETURN 1");
        House.dueFault(5, "MATCH ()^-[*999999999999999999]-() RETURN 1");
        House.dueFault(5, "MATCH ()-[*1..3]-()^--() RETURN 1");
        House.dueFault(5, "MATCH ()--()^-[*1..3]-() RETURN 1");
        House.dueAlone("MATCH ()--()-[*1..2]-() RETURN 1", "done");
        House.dueFault(5, "MATCH (),()^-[*1..3]-() RETURN 1");
        House.dueFault(5, "MATCH (),(),()--(),^() RETURN 1");
    }

    private static void sizeOfShortest() {
        String shortest = "p=SHORTEST ()-[*1..9]-()";
        House.dueAlone("MATCH " + shortest + ",(),() RETURN 1", "done");
        House.dueAlone("MATCH " + shortest + ",()--() RETURN 1", "done");
        House.dueAlone("MATCH " + shortest + ",q=SHORTEST ()--() RETURN 1", "done");
        House.dueFault(5, "MATCH " + shortest + ",(),(),^() RETURN 1");
        House.dueFault(5, "MATCH " + shortest + ",()--()^--() RETURN 1");
        House.dueFault(5, "MATCH " + shortest + ",(),^q=SHORTEST ()--() RETURN 1");
        House.dueAlone("MATCH (),()," + shortest + " RETURN 1", "done");
        House.dueFault(5, "MATCH (),(),(),^" + shortest + " RETURN 1");
        House.dueFault(5, "MATCH ()--()--(),^" + shortest + " RETURN 1");
    }

    private static void sizeOfCreate() {
        House h = new House("no SIZE of CREATE");
        h.due("CREATE (),(),(),(),(),(a)-[:T]->(b)-[:T]->(c)-[:T]->(d)-[:T]->(e)-[:T]->(f)", "done");
        h.due("state", h.state("01"), "11 5");
    }

    private static void linkOfShortest() {
        House.dueAlone("MATCH p=SHORTEST (a)-[:T|S*1..2]->(b) RETURN p", "done");
        House.dueFault(5, "MATCH p=SHORTEST (a)^-[r]-(b) RETURN p");
        House.dueFault(5, "MATCH p=SHORTEST (a)^-[r:T]->(b) RETURN p");
        House.dueFault(5, "MATCH p=SHORTEST (a)^<-[{k:1}]-(b) RETURN p");
        House.dueFault(5, "MATCH p=SHORTEST (a)^-[r*2]-(b) RETURN p");
        House.dueFault(5, "MATCH p=SHORTEST (a)^-[*0{k:1}]-(b) RETURN p");
        House.dueAlone("MATCH p=SHORTEST (a:A{k:1})--(b:B{k:2}) RETURN p", "done");
    }

    private static void firstInTheOrderOfTokens() {
        House.dueFault(5, "CREATE (a)^-[a]->(b)");
        House.dueFault(4, "CREATE (a)-[^a:T]->(b)-->(c)");
        House.dueFault(5, "CREATE (a)^-->(b)-[a:T]->(c)");
        House.dueFault(5, "CREATE (a)-[r:T]->(b),^(r:A)");
        House.dueFault(5, "CREATE (a),^(a{k:x})");
        House.dueFault(4, "CREATE (a{k:^x}),(a:A)");
        House.dueFault(4, "MATCH (a)-[^a*0]-(b) RETURN x");
        House.dueFault(5, "MATCH (a)-[^*0]-(b) RETURN x");
        House.dueFault(5, "MATCH (a)^<-[a*0]->(b) RETURN x");
        House.dueFault(5, "MATCH (a)-[r^*0{k:x}]-(b) RETURN y");
        House.dueFault(6, "WITH ^1 MATCH (a)<-->(b) RETURN x");
        House.dueFault(5, "MATCH (a)^<-->(b) WITH 1 RETURN x");
        House.dueFault(6, "WITH ^1,x RETURN 1");
        House.dueFault(6, "WITH ^1+x RETURN 1");
        House.dueFault(4, "WITH ^x,1 RETURN 1");
        House.dueFault(4, "RETURN ^x,y");
        House.dueFault(5, "MATCH (a)^-[*4..1000]-(b{k:x}) RETURN 1");
    }

    private static void leastAtOneToken() {
        House.dueFault(4, "MATCH (p),(b),(c),^p=SHORTEST (d)--(e) RETURN 1");
        House.dueFault(5, "MATCH (a),(b),(c),^p=SHORTEST (d)--(e) RETURN 1");
        House.dueFault(4, "WITH ^x.k RETURN 1");
        House.dueFault(4, "WITH ^x+1 RETURN 1");
        House.dueFault(4, "WITH ^x:A RETURN 1");
        House.dueFault(4, "WITH 1 AS a WITH a,^x.k RETURN 1");
        House.dueFault(6, "WITH 1 AS a WITH ^a.k RETURN 1");
    }

    /** FAULTS 1 to 3 come ahead of 4 to 6, wherever they stand. */
    private static void tokensAheadOfAllElse() {
        String[] wrong = {"RETURN x", "MATCH (a)<-->(b) RETURN 1", "WITH 1 RETURN 1", "CREATE (a)-->(b) RETURN a",
            "MATCH (a)-[*0]-(b) RETURN y"};
        for (String statement : wrong) {
            House.dueFault(1, statement + " ^$");
            House.dueFault(2, statement + " ^ZZ");
            House.dueFault(2, statement + ",^");
            House.dueFault(3, statement + ",((((((((((^1))))))))))");
        }
    }
}
