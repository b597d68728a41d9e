/** The edges of the STATEMENT: which TOKENS can stand where, how many of each, and how deep an X lies (FAULTS 2 and 3). */
public final class GrammarEdgesTest {
    public static void main(String[] args) {
        clauses();
        ninthClauses();
        returnIsTheLastOne();
        lastOneReturnsOrChanges();
        itemsOfResults();
        ordersOfResults();
        skipAndLimit();
        oneAtLeast();
        oneComparisonAtMost();
        placesOfX();
        placesOfAggregates();
        matchAlone();
        everyTokenOfStatements();
        deepOnes();
        deepFunctions();
        deepAggregates();
        deepEverywhere();
        firstOfThese();
        House.end();
    }

    private static void clauses() {
        House.dueFault(2, "^");
        House.dueFault(2, "     ^");
        House.dueAlone("RETURN 1", "1");
        House.dueAlone("CREATE ()", "done");
        House.dueAlone("MATCH (a) ".repeat(7) + "RETURN COUNT(*)", "0");
        House.dueFault(2, "MATCH (a) ".repeat(8) + "^RETURN COUNT(*)");
        House h = new House("eight CLAUSES");
        h.due("CREATE () ".repeat(8), "done");
        h.due("NODES", h.state(0), 8);
        h.due("CREATE () ".repeat(9), "fault 2 at 80");
        h.due("NODES", h.state(0), 8);
        String seven = "CREATE (a) " + "SET a.k=1 ".repeat(6);
        h.due(seven + "DETACH DELETE a", "done");
        h.due(seven + "RETURN a", "N8");
        h.due(seven + "SET a.k=2 RETURN a", "fault 2 at 81");
    }

    private static void ninthClauses() {
        String[] ninth = {"MATCH (a)", "OPTIONAL MATCH (a)", "WITH 1 AS a", "CREATE ()", "DELETE a", "DETACH DELETE a", "SET a.k=1",
            "REMOVE a.k", "RETURN 1", "RETURN", "x", ")", "ZZ", "1"};
        for (String clause : ninth) {
            House.dueFault(2, "CREATE () ".repeat(8) + "^" + clause);
        }
        House.dueFault(2, "CREATE () ".repeat(7) + "MATCH (a)^");
        House.dueFault(2, "CREATE () ".repeat(7) + "MATCH (a) ^RETURN 1");
    }

    private static void returnIsTheLastOne() {
        String[] next = {"MATCH (a)", "OPTIONAL MATCH (a)", "WITH 1 AS a", "CREATE ()", "DELETE a", "DETACH DELETE a", "SET a.k=1",
            "REMOVE a.k", "RETURN 1", "WHERE TRUE"};
        for (String clause : next) {
            House.dueFault(2, "RETURN 1 ^" + clause);
            House.dueFault(2, "RETURN 1 AS a ORDER BY a SKIP 0 LIMIT 1 ^" + clause);
        }
    }

    private static void lastOneReturnsOrChanges() {
        House.dueFault(2, "MATCH (a)^");
        House.dueFault(2, "MATCH (a) WHERE TRUE  ^");
        House.dueFault(2, "OPTIONAL MATCH (a)^");
        House.dueFault(2, "WITH 1 AS a^");
        House.dueFault(2, "WITH 1 AS a WHERE TRUE^");
        House.dueFault(2, "CREATE (a) MATCH (b)^");
        House.dueFault(2, "CREATE (a) WITH a^");
        String[] last = {"CREATE (b)", "DELETE a", "DETACH DELETE a", "SET a.k=1", "SET a:A", "REMOVE a.k", "REMOVE a:A"};
        for (String clause : last) {
            House.dueAlone("CREATE (a) " + clause, "done");
        }
        House.dueAlone("CREATE (a) RETURN a", "N0");
    }

    private static void itemsOfResults() {
        House.dueFault(2, "RETURN^");
        House.dueFault(2, "RETURN DISTINCT^");
        House.dueFault(2, "RETURN ^ORDER BY 1");
        House.dueFault(2, "RETURN ^LIMIT 1");
        House.dueFault(2, "RETURN ^,1");
        House.dueFault(2, "RETURN 1,^");
        House.dueFault(2, "RETURN DISTINCT ^DISTINCT 1");
        House.dueAlone("RETURN 1,2,3,4,5,6", "1,2,3,4,5,6");
        House.dueAlone("RETURN DISTINCT 1,2,3,4,5,COUNT(*) AS c", "1,2,3,4,5,1");
        House.dueFault(2, "RETURN 1,2,3,4,5,6,^7");
        House.dueFault(2, "RETURN DISTINCT 1,2,3,4,5,6,^COUNT(*)");
        House.dueFault(2, "RETURN 1,2,3,4,5,6,^");
        House.dueFault(2, "RETURN 1,2,3,4,5,6,^,");
        String six = "WITH 1 AS a,2 AS b,3 AS c,4 AS d,5 AS e,6 AS f";
        House.dueAlone(six + " RETURN a+b+c+d+e+f", "21");
        House.dueFault(2, six + ",^7 AS g RETURN a");
    }

    private static void ordersOfResults() {
        House.dueFault(2, "RETURN 1 AS a ORDER BY^");
        House.dueFault(2, "RETURN 1 AS a ORDER BY ^DESC");
        House.dueFault(2, "RETURN 1 AS a ORDER ^a");
        House.dueFault(2, "RETURN 1 AS a ORDER BY a,^");
        House.dueFault(2, "RETURN 1 AS a ORDER BY a DESC ^DESC");
        House.dueAlone("RETURN 1 AS a ORDER BY a", "1");
        House.dueAlone("RETURN 1 AS a ORDER BY a DESC,2,a+1", "1");
        House.dueFault(2, "RETURN 1 AS a ORDER BY a DESC,2,a+1,^a");
        House.dueFault(2, "RETURN 1 AS a ORDER BY a,a,a DESC,^");
        House.dueAlone("WITH 1 AS a ORDER BY a,a,a RETURN a", "1");
        House.dueFault(2, "WITH 1 AS a ORDER BY a,a,a,^a RETURN a");
    }

    private static void skipAndLimit() {
        House.dueAlone("RETURN 1 SKIP 0 LIMIT 999999999999999999", "1");
        House.dueAlone("RETURN 1 LIMIT 1", "1");
        House.dueFault(2, "RETURN 1 SKIP^");
        House.dueFault(2, "RETURN 1 LIMIT^");
        House.dueFault(2, "RETURN 1 SKIP ^-1");
        House.dueFault(2, "RETURN 1 LIMIT ^'a'");
        House.dueFault(2, "RETURN 1 AS a SKIP ^a");
        House.dueFault(2, "RETURN 1 LIMIT 1^+1");
        House.dueFault(2, "RETURN 1 LIMIT 1 ^SKIP 1");
        House.dueFault(2, "RETURN 1 LIMIT 1 ^LIMIT 1");
        House.dueFault(2, "RETURN 1 SKIP 1 ^SKIP 1");
        House.dueFault(2, "RETURN 1 AS a LIMIT 1 ^ORDER BY a");
        House.dueFault(2, "WITH 1 AS a WHERE TRUE ^LIMIT 1 RETURN a");
        House.dueAlone("WITH 1 AS a ORDER BY a SKIP 0 LIMIT 1 WHERE TRUE RETURN a", "1");
    }

    private static void oneAtLeast() {
        House.dueFault(2, "MATCH^");
        House.dueFault(2, "MATCH ^RETURN 1");
        House.dueFault(2, "MATCH (a), ^RETURN 1");
        House.dueFault(2, "CREATE^");
        House.dueFault(2, "CREATE (a),^");
        House.dueFault(2, "CREATE (a) DELETE^");
        House.dueFault(2, "CREATE (a) DELETE a,^");
        House.dueFault(2, "CREATE (a) SET^");
        House.dueFault(2, "CREATE (a) SET a.k=1,^");
        House.dueFault(2, "CREATE (a) REMOVE^");
        House.dueFault(2, "CREATE (a) REMOVE a.k,^");
        House.dueFault(2, "MATCH (a{^}) RETURN 1");
        House.dueFault(2, "CREATE (a)-[:T{^}]->(b)");
        House.dueFault(2, "CREATE (a{k:1,^})");
        House.dueFault(2, "MATCH (a:^) RETURN 1");
        House.dueFault(2, "MATCH (a)-[:^]-(b) RETURN 1");
        House.dueFault(2, "MATCH (a)-[:T|^]-(b) RETURN 1");
        House.dueFault(2, "MATCH (a)-[*^]-(b) RETURN 1");
        House.dueFault(2, "MATCH (a)-[*1..^]-(b) RETURN 1");
        House.dueFault(2, "MATCH (a) WHERE ^RETURN 1");
        House.dueFault(2, "OPTIONAL ^RETURN 1");
        House.dueFault(2, "DETACH^");
        House.dueAlone("MATCH (),()-[]-() RETURN 1", "done");
    }

    private static void oneComparisonAtMost() {
        String[] signs = {"=", "<>", "<", "<=", ">", ">="};
        for (String sign : signs) {
            House.dueAlone("RETURN (1" + sign + "1) IS NULL", "false");
            for (String other : signs) {
                House.dueFault(2, "RETURN 1" + sign + "1^" + other + "1");
            }
            House.dueFault(2, "RETURN 1" + sign + "1 ^IS NULL");
            House.dueFault(2, "RETURN 1 IS NULL^" + sign + "1");
            House.dueFault(2, "RETURN 1 IS NOT NULL^" + sign + "1");
            House.dueFault(2, "RETURN 1" + sign + "^NOT TRUE");
            House.dueFault(2, "RETURN 1" + sign + "^");
        }
        House.dueFault(2, "RETURN 1 IS NULL ^IS NULL");
        House.dueFault(2, "RETURN 1 IS NOT NULL ^IS NOT NULL");
        House.dueFault(2, "RETURN 1 IS ^TRUE");
        House.dueFault(2, "RETURN 1 IS NOT ^1");
        House.dueFault(2, "RETURN 1 IS^");
        House.dueFault(2, "RETURN NOT 1=1^=1");
        House.dueAlone("RETURN 1=1 AND 2=2,(1=1)=(2=2)", "true,true");
    }

    private static void placesOfX() {
        String[] operators = {"OR", "XOR", "AND", "+", "-", "*", "/", "%"};
        for (String sign : operators) {
            House.dueFault(2, "RETURN 1 " + sign + "^");
            House.dueFault(2, "RETURN 1 " + sign + " ^)");
            if (!sign.equals("-")) {
                House.dueFault(2, "RETURN ^" + sign + " 1");
                House.dueFault(2, "RETURN 1 + ^" + sign + " 1");
            }
        }
        House.dueFault(2, "RETURN -^");
        House.dueFault(2, "RETURN NOT^");
        House.dueFault(2, "RETURN 1+^NOT TRUE");
        House.dueFault(2, "RETURN -^NOT TRUE");
        House.dueFault(2, "RETURN (^)");
        House.dueFault(2, "RETURN (1^");
        House.dueFault(2, "RETURN (1^,2)");
        House.dueFault(2, "RETURN 1^)");
        House.dueFault(2, "RETURN ^MATCH");
        House.dueFault(2, "RETURN ^Abc");
        House.dueFault(2, "RETURN ^[1]");
        String[] functions = {"ID", "TYPE", "SIZE", "DEGREE"};
        for (String function : functions) {
            House.dueFault(2, "RETURN " + function + "^");
            House.dueFault(2, "RETURN " + function + " ^1");
            House.dueFault(2, "RETURN " + function + "(^)");
            House.dueFault(2, "RETURN " + function + "(NULL^,NULL)");
            House.dueFault(2, "RETURN " + function + "(NULL^");
        }
        House.dueFault(2, "RETURN COALESCE(1^)");
        House.dueFault(2, "RETURN COALESCE(1,^)");
        House.dueFault(2, "RETURN COALESCE(1,2^,3)");
        House.dueAlone("RETURN COALESCE(NULL,2)", "2");
    }

    private static void placesOfAggregates() {
        String[] all = {"COUNT", "SUM", "MIN", "MAX"};
        for (String aggregate : all) {
            House.dueAlone("RETURN " + aggregate + "(1)," + aggregate + "(DISTINCT 1)", "1,1");
            House.dueFault(2, "RETURN " + aggregate + "(^)");
            House.dueFault(2, "RETURN " + aggregate + "(DISTINCT^");
            House.dueFault(2, "RETURN " + aggregate + "(DISTINCT ^*)");
            House.dueFault(2, "RETURN " + aggregate + "(1^,2)");
            House.dueFault(2, "RETURN " + aggregate + "(1)^+1");
            House.dueFault(2, "RETURN 1+^" + aggregate + "(1)");
            House.dueFault(2, "RETURN (^" + aggregate + "(1))");
            House.dueFault(2, "RETURN SUM(^" + aggregate + "(1))");
            House.dueFault(2, "RETURN -^" + aggregate + "(1)");
            House.dueFault(2, "RETURN 1 AS a ORDER BY ^" + aggregate + "(a)");
            House.dueFault(2, "MATCH (a) WHERE ^" + aggregate + "(a) RETURN 1");
            House.dueFault(2, "CREATE ({k:^" + aggregate + "(1)})");
            if (!aggregate.equals("COUNT")) {
                House.dueFault(2, "RETURN " + aggregate + "(^*)");
            }
        }
        House.dueAlone("RETURN COUNT(*)", "1");
        House.dueFault(2, "RETURN COUNT(*^,1)");
    }

    private static void matchAlone() {
        House.dueAlone("MATCH p=SHORTEST (a)--(b) RETURN p", "done");
        House.dueAlone("OPTIONAL MATCH p=SHORTEST (a)--(b) RETURN p", "null");
        House.dueFault(2, "CREATE ^p=SHORTEST (a)-[:T]->(b)");
        House.dueFault(2, "MATCH p=SHORTEST (a) ^RETURN p");
        House.dueFault(2, "MATCH p=SHORTEST (a)--(b)^--(c) RETURN p");
        House.dueFault(2, "MATCH p=^(a)--(b) RETURN p");
        House.dueFault(2, "MATCH ^SHORTEST (a)--(b) RETURN 1");
        House.dueFault(2, "MATCH p ^(a)--(b) RETURN 1");
        House.dueFault(2, "CREATE (a) ^WHERE TRUE");
        House.dueFault(2, "CREATE (a) DELETE a ^WHERE TRUE");
        House.dueFault(2, "CREATE (a) SET a.k=1 ^WHERE TRUE");
        House.dueFault(2, "OPTIONAL ^CREATE (a)");
        House.dueFault(2, "DETACH ^SET a.k=1");
        House.dueFault(2, "CREATE (a) DELETE a^.k");
        House.dueFault(2, "CREATE (a) SET a^=1");
        House.dueFault(2, "CREATE (a) SET a.k^");
        House.dueFault(2, "CREATE (a) SET a.k^,a.j=1");
        House.dueFault(2, "CREATE (a) SET a:A^:B");
        House.dueFault(2, "CREATE (a) SET a:A^=1");
        House.dueFault(2, "CREATE (a) REMOVE a.k^=1");
        House.dueFault(2, "CREATE (a) REMOVE a^");
        House.dueFault(2, "CREATE (a) RETURN a.k^.j");
        House.dueFault(2, "CREATE (a) RETURN a:A^:B");
        House.dueFault(2, "CREATE (a) RETURN (a)^.k");
    }

    /** A statement that could end behind a TOKEN has a ! there. */
    private static void everyTokenOfStatements() {
        everyToken("MATCH ( a : A : B { k : 1 , j : 'x' } ) - [ r : T | S { w : 2 } ] - > ( b ) < - [ : T * 1 .. 2 ] - ( ) "
            + "WHERE a . k = 1 AND NOT b : C RETURN a! , r! . k! AS n!");
        everyToken("OPTIONAL MATCH p = SHORTEST ( a ) - [ * 2 ] - ( b ) , ( c ) RETURN p!");
        everyToken("CREATE ( a )! < - [ r : T { k : 1 } ] - ( b )! , ( c )! SET a . k = 1! , b : B! REMOVE a . k! , b : B! "
            + "DELETE r! , c! DETACH DELETE a! , b!");
        everyToken("WITH DISTINCT 1 AS a , COUNT ( * ) AS b ORDER BY a DESC , b SKIP 0 LIMIT 9 WHERE a > 0 "
            + "RETURN COUNT ( DISTINCT a )! ORDER BY 1! DESC! , 2! SKIP 1! LIMIT 1!");
        everyToken("RETURN COALESCE ( NULL , SIZE ( 'a' ) )! + - 1! * ( 2 - 1 )! IS NOT NULL! XOR TRUE! OR FALSE!");
    }

    /** A WORD that is none, what is no TOKEN, and the tape's end in place of each TOKEN. */
    private static void everyToken(String statement) {
        StringBuilder ahead = new StringBuilder();
        boolean mayEnd = false;
        for (String token : statement.split(" ")) {
            House.dueFault(1, ahead + "^$");
            House.dueFault(2, ahead + "^ZZ");
            end(ahead.toString(), mayEnd);
            mayEnd = token.endsWith("!");
            ahead.append(mayEnd ? token.substring(0, token.length() - 1) : token).append(' ');
        }
        end(ahead.toString(), mayEnd);
    }

    private static void end(String statement, boolean mayEnd) {
        String answer = new House("ends").ask(statement);
        if (mayEnd) {
            new House(statement).due("has a FAULT", answer.startsWith("fault"), false);
        } else {
            new House(statement).due("ends too early", answer, "fault 2 at " + statement.length());
        }
    }

    private static void deepOnes() {
        House.dueAlone("RETURN " + "(".repeat(9) + "1" + ")".repeat(9), "1");
        House.dueFault(3, "RETURN " + "(".repeat(10) + "^1" + ")".repeat(10));
        House.dueAlone("RETURN " + "-".repeat(9) + "1", "-1");
        House.dueFault(3, "RETURN " + "-".repeat(10) + "^1");
        House.dueAlone("RETURN " + "NOT ".repeat(9) + "TRUE", "false");
        House.dueFault(3, "RETURN " + "NOT ".repeat(10) + "^TRUE");
        House.dueFault(3, "RETURN " + "NOT ".repeat(10) + "^NOT TRUE");
        House.dueFault(3, "RETURN " + "(".repeat(10) + "^(1" + ")".repeat(11));
        House.dueFault(3, "RETURN " + "-".repeat(10) + "^-1");
        House.dueAlone("RETURN NOT (NOT (NOT (-(-1)=1)))", "false");
        House.dueFault(3, "RETURN NOT (NOT (NOT (-(-(^1))=1)))");
        House.dueAlone("RETURN " + "(".repeat(9) + "1" + ")".repeat(9) + "+" + "(".repeat(9) + "1+1" + ")".repeat(9), "3");
        House.dueFault(3, "RETURN " + "(".repeat(9) + "1" + ")".repeat(9) + "+" + "(".repeat(9) + "1+(^1)" + ")".repeat(9));
        House.dueAlone("RETURN " + "1+".repeat(30) + "1", "31");
        String nine = "(".repeat(9) + "^1=1" + ")".repeat(9);
        String[] beside = {"-1+", "-1*", "-1=", "NOT TRUE AND ", "NOT TRUE OR ", "NOT TRUE XOR ", "NOT 1=1 AND ", "-1 IS NULL AND "};
        for (String x : beside) {
            String statement = "RETURN " + x + nine.replace("^", "");
            new House(statement).due("a FAULT", new House("beside").ask(statement).startsWith("fault"), false);
        }
        String[] within = {"NOT ", "NOT 1=", "NOT 1+", "NOT 1*", "-"};
        for (String x : within) {
            House.dueFault(3, "RETURN " + x + nine);
        }
    }

    private static void deepFunctions() {
        String[] functions = {"ID(", "TYPE(", "SIZE(", "DEGREE("};
        for (String function : functions) {
            House.dueAlone("RETURN " + function.repeat(9) + "NULL" + ")".repeat(9), "null");
            House.dueFault(3, "RETURN " + function.repeat(10) + "^NULL" + ")".repeat(10));
        }
        House.dueAlone("RETURN " + "COALESCE(".repeat(9) + "1" + ",2)".repeat(9), "1");
        House.dueFault(3, "RETURN " + "COALESCE(".repeat(10) + "^1" + ",2)".repeat(10));
        House.dueAlone("RETURN " + "COALESCE(1,".repeat(9) + "2" + ")".repeat(9), "1");
        House.dueFault(3, "RETURN " + "COALESCE(1,".repeat(9) + "COALESCE(^1,2)" + ")".repeat(9));
    }

    private static void deepAggregates() {
        String[] aggregates = {"COUNT(", "SUM(", "MIN(", "MAX(", "COUNT(DISTINCT ", "SUM(DISTINCT "};
        for (String aggregate : aggregates) {
            House.dueAlone("RETURN " + aggregate + "(".repeat(8) + "1" + ")".repeat(9), "1");
            House.dueFault(3, "RETURN " + aggregate + "(".repeat(9) + "^1" + ")".repeat(10));
        }
    }

    private static void deepEverywhere() {
        String nine = "(".repeat(9) + "1" + ")".repeat(9);
        String ten = "(".repeat(10) + "^1" + ")".repeat(10);
        String[][] places = {{"MATCH (a) WHERE ", " RETURN 1"}, {"MATCH (a{k:", "}) RETURN 1"},
            {"MATCH (a)-[{k:", "}]-(b) RETURN 1"}, {"CREATE (a:Z{k:", "})"}, {"CREATE (a)-[:T{k:", "}]->(b)"},
            {"CREATE (a) SET a.k=", ""}, {"WITH 1 AS a ORDER BY ", " SET a.k=1"}, {"WITH ", " AS a DELETE a"},
            {"WITH 1 AS a WHERE ", " DELETE a"}, {"RETURN 2 ORDER BY 1,", ""}};
        for (String[] place : places) {
            String answer = new House("nine").ask(place[0] + nine + place[1]);
            new House(place[0] + nine).due("no FAULT", answer.startsWith("fault"), false);
            House.dueFault(3, place[0] + ten + place[1]);
        }
    }

    private static void firstOfThese() {
        String ten = "RETURN ((((((((((";
        House.dueFault(1, ten + "^$");
        House.dueFault(1, ten + "^'");
        House.dueFault(3, ten + "^)");
        House.dueFault(3, ten + "^ZZ");
        House.dueFault(3, ten + "^x");
        House.dueFault(2, "RETURN (((((((((^)");
        House.dueFault(2, "RETURN ^) " + ten);
        House.dueFault(3, ten + "^1 ) ZZ $");
        House.dueFault(3, "RETURN x," + ten.substring(7) + "^1");
        House.dueFault(2, "RETURN x ^y");
    }
}
