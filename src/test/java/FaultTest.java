/** Promises 3 and 4: FAULTS and their places. */
public final class FaultTest {
    public static void main(String[] args) {
        noTokens();
        wrongTokens();
        tooManyOfThem();
        deep();
        names();
        patterns();
        items();
        order();
        answers();
        House.end();
    }

    private static void faults(String name, String[][] rows) {
        for (String[] row : rows) {
            new House(name).due(row[0], row[1]);
        }
    }

    private static void noTokens() {
        faults("no TOKEN", new String[][] {
            {"RETURN 1;", "fault 1 at 8"},
            {"RETURN \"a\"", "fault 1 at 7"},
            {"RETURN 'abc", "fault 1 at 7"},
            {"RETURN 'abcdefghijklmnopqrstuvwx'", "'abcdefghijklmnopqrstuvwx'"},
            {"RETURN 'abcdefghijklmnopqrstuvwxy'", "fault 1 at 7"},
            {"RETURN ''", "''"},
            {"RETURN 1 AS abcdefgh", "1"},
            {"RETURN 1 AS abcdefghi", "fault 1 at 12"},
            {"RETURN 1 AS a2345678", "1"},
            {"CREATE (:Abcdefgh)", "done"},
            {"CREATE (:Abcdefghi)", "fault 1 at 9"},
            {"RETURN 999999999999999999", "999999999999999999"},
            {"RETURN 1000000000000000000", "fault 1 at 7"},
            {"RETURN 000000000000000001", "1"},
            {"RETURN 0000000000000000001", "fault 1 at 7"},
            {"RETURN 1 2 $", "fault 2 at 9"},
            {"$", "fault 1 at 0"},
            {"RETURN 1 AS A1b AS", "fault 2 at 12"},
        });
    }

    private static void wrongTokens() {
        faults("wrong TOKENS", new String[][] {
            {"", "fault 2 at 0"},
            {"   ", "fault 2 at 3"},
            {"a", "fault 2 at 0"},
            {"RETURN", "fault 2 at 6"},
            {"RETURN  ", "fault 2 at 8"},
            {"RETURNS 1", "fault 2 at 0"},
            {"RETURN1", "1"},
            {"RETURN 1 RETURN 1", "fault 2 at 9"},
            {"RETURN 1 WHERE TRUE", "fault 2 at 9"},
            {"MATCH (a)", "fault 2 at 9"},
            {"MATCH (a) WITH a", "fault 2 at 16"},
            {"OPTIONAL CREATE (a)", "fault 2 at 9"},
            {"DETACH MATCH (a)", "fault 2 at 7"},
            {"MATCH (MATCH)", "fault 2 at 7"},
            {"MATCH (a:AB)", "fault 2 at 9"},
            {"MATCH (a:b)", "fault 2 at 9"},
            {"MATCH (A)", "fault 2 at 7"},
            {"MATCH (a)-(b) RETURN 1", "fault 2 at 10"},
            {"MATCH (a)->(b) RETURN 1", "fault 2 at 10"},
            {"MATCH (a)<(b) RETURN 1", "fault 2 at 10"},
            {"MATCH (a)-[:T|:S]-(b) RETURN 1", "fault 2 at 14"},
            {"MATCH (a)-[*]-(b) RETURN 1", "fault 2 at 12"},
            {"MATCH (a)-[*1..]-(b) RETURN 1", "fault 2 at 15"},
            {"MATCH (a)-[*1. .2]-(b) RETURN 1", "fault 2 at 13"},
            {"MATCH (a)-[*1:T]-(b) RETURN 1", "fault 2 at 13"},
            {"MATCH (a{}) RETURN 1", "fault 2 at 9"},
            {"MATCH p=SHORTEST (a) RETURN 1", "fault 2 at 21"},
            {"MATCH p=SHORTEST (a)--(b)--(c) RETURN 1", "fault 2 at 25"},
            {"CREATE p=SHORTEST (a)--(b)", "fault 2 at 7"},
            {"MATCH (a) SET a=1", "fault 2 at 15"},
            {"MATCH (a) REMOVE a.k=1", "fault 2 at 20"},
            {"MATCH (a) DELETE a.k", "fault 2 at 18"},
            {"RETURN 1<2<3", "fault 2 at 10"},
            {"RETURN 1<=", "fault 2 at 10"},
            {"RETURN 1 < = 2", "fault 2 at 11"},
            {"RETURN TRUE AND 1<2=TRUE", "fault 2 at 19"},
            {"RETURN 1=1 IS NULL", "fault 2 at 11"},
            {"RETURN 1 IS NULL IS NULL", "fault 2 at 17"},
            {"RETURN NOT 1=2=3", "fault 2 at 14"},
            {"RETURN 1=NOT TRUE", "fault 2 at 9"},
            {"RETURN -NOT TRUE", "fault 2 at 8"},
            {"RETURN 1+COUNT(*)", "fault 2 at 9"},
            {"RETURN COUNT(*)+1", "fault 2 at 15"},
            {"RETURN COUNT(DISTINCT *)", "fault 2 at 22"},
            {"RETURN SUM(*)", "fault 2 at 11"},
            {"RETURN COUNT(COUNT(*))", "fault 2 at 13"},
            {"RETURN 1 AS a ORDER BY COUNT(*)", "fault 2 at 23"},
            {"RETURN 1 LIMIT 1 SKIP 1", "fault 2 at 17"},
            {"RETURN 1 LIMIT -1", "fault 2 at 15"},
            {"RETURN COALESCE(1)", "fault 2 at 17"},
            {"RETURN ID()", "fault 2 at 10"},
            {"MATCH (a) RETURN a.k.j", "fault 2 at 20"},
            {"MATCH (a) RETURN a:A:B", "fault 2 at 20"},
            {"MATCH (a) RETURN a..k", "fault 2 at 18"},
        });
    }

    private static void tooManyOfThem() {
        String seven = "MATCH (a) ".repeat(7);
        faults("too many", new String[][] {
            {seven + "RETURN 1", "done"},
            {seven + "MATCH (a) RETURN 1", "fault 2 at 80"},
            {seven + "OPTIONAL MATCH (a) OPTIONAL MATCH (a) RETURN 1", "fault 2 at 89"},
            {seven + "MATCH (a)", "fault 2 at 79"},
            {"RETURN 1,2,3,4,5,6", "1,2,3,4,5,6"},
            {"RETURN 1,2,3,4,5,6,7", "fault 2 at 19"},
            {"RETURN 1,2,3,4,5,6,", "fault 2 at 19"},
            {"RETURN 1,2,3,4,5,6,$", "fault 1 at 19"},
            {"RETURN 1,2,3,4,5,6,LIMIT 1", "fault 2 at 19"},
            {"RETURN 1 AS a ORDER BY a,a,a DESC", "1"},
            {"RETURN 1 AS a ORDER BY a,a,a DESC,a", "fault 2 at 34"},
            {"RETURN 1 AS a ORDER BY a,a,a,LIMIT 1", "fault 2 at 29"},
            {"RETURN 1 AS a ORDER BY a,a,a,", "fault 2 at 29"},
        });
    }

    private static void deep() {
        faults("deep", new String[][] {
            {"RETURN (((((((((1)))))))))", "1"},
            {"RETURN ((((((((((1))))))))))", "fault 3 at 17"},
            {"RETURN ((((((((((", "fault 3 at 17"},
            {"RETURN (((((((((", "fault 2 at 16"},
            {"RETURN ((((((((((AND", "fault 3 at 17"},
            {"RETURN (((((((((($", "fault 1 at 17"},
            {"RETURN ---------1", "-1"},
            {"RETURN ----------1", "fault 3 at 17"},
            {"RETURN NOT NOT NOT NOT NOT NOT NOT NOT NOT TRUE", "false"},
            {"RETURN NOT NOT NOT NOT NOT NOT NOT NOT NOT NOT TRUE", "fault 3 at 47"},
            {"RETURN COUNT((((((((1))))))))", "1"},
            {"RETURN COUNT(((((((((1)))))))))", "1"},
            {"RETURN COUNT((((((((((1))))))))))", "fault 3 at 22"},
            {"RETURN SIZE(COALESCE((((((((('a')))))))),1))", "fault 3 at 29"},
            {"RETURN SIZE(COALESCE((((((('a'))))))),''))", "fault 2 at 36"},
            {"RETURN SIZE(COALESCE((((((('a')))))),''))", "1"},
            {"RETURN -(-(-(-(-1))))", "-1"},
            {"RETURN -(-(-(-(-(1)))))", "fault 3 at 17"},
            {"RETURN 1+2*(3-(4))=5 AND NOT(1<>1)", "false"},
        });
    }

    private static void names() {
        faults("NAMES", new String[][] {
            {"RETURN a", "fault 4 at 7"},
            {"MATCH (a) RETURN 1+b.k", "fault 4 at 19"},
            {"MATCH (a) DELETE a,b", "fault 4 at 19"},
            {"MATCH (a) SET b.k=1", "fault 4 at 14"},
            {"MATCH (a) SET a.k=b", "fault 4 at 18"},
            {"MATCH (a) REMOVE b:A", "fault 4 at 17"},
            {"MATCH (a)-[a]->(b) RETURN 1", "fault 4 at 11"},
            {"MATCH (a)-[r]->(r) RETURN 1", "fault 4 at 16"},
            {"MATCH (a)-[r]->(b),(c)-[r]->(d) RETURN 1", "fault 4 at 24"},
            {"MATCH ()-[r]->() MATCH (r) RETURN r", "done"},
            {"MATCH ()-[r]->() MATCH ()-[r]->() RETURN r", "fault 4 at 27"},
            {"MATCH (p),p=SHORTEST (a)--(b) RETURN 1", "fault 4 at 10"},
            {"MATCH p=SHORTEST (p)--(b) RETURN 1", "fault 4 at 18"},
            {"CREATE (a)-[a:T]->(b)", "fault 4 at 12"},
            {"CREATE (a)-[r:T]->(r)", "fault 4 at 19"},
            {"MATCH (a),(b{k:a.k}) RETURN 1", "fault 4 at 15"},
            {"MATCH (a{k:a.k}) RETURN 1", "fault 4 at 11"},
            {"MATCH (a) MATCH (a{k:a.k})-->(b) WHERE b.k=a.k RETURN 1", "done"},
            {"CREATE (a),(b{k:a.k})", "fault 4 at 16"},
            {"MATCH (a) RETURN a,a", "fault 4 at 19"},
            {"MATCH (a) RETURN a,1 AS a", "fault 4 at 24"},
            {"MATCH (a) RETURN 1 AS a,a", "fault 4 at 24"},
            {"MATCH (a) RETURN a AS b,a AS c", "done"},
            {"MATCH (a),(b) WITH a RETURN b", "fault 4 at 28"},
            {"MATCH (a) WITH a AS b WHERE a.k=1 RETURN b", "fault 4 at 28"},
            {"MATCH (a) RETURN a.k ORDER BY a.k", "fault 4 at 30"},
            {"MATCH (a) RETURN a AS b ORDER BY b.k", "done"},
            {"MATCH (a)-[b]->(c)-[d]->(e) MATCH (f)-[g]->(h) RETURN 1", "done"},
            {"MATCH (a)-[b]->(c)-[d]->(e) MATCH (f)-[g]->(h),(i) RETURN 1", "fault 4 at 48"},
            {"MATCH (a)-[b]->(c)-[d]->(e) MATCH (f)-[g]->(h) MATCH (a),() RETURN 1", "done"},
            {"CREATE (a),(b),(c),(d),(e),(f),(g),(h),(i)", "fault 4 at 40"},
            {"CREATE (a),(b),(c),(d),(e),(f),(g),(h) WITH a,b CREATE (i)", "done"},
        });
    }

    private static void patterns() {
        faults("PATTERNS", new String[][] {
            {"CREATE (a),(a:A)", "fault 5 at 11"},
            {"CREATE (a),(a{k:1})", "fault 5 at 11"},
            {"CREATE (a:A)-[:T]->(a)", "done"},
            {"CREATE (a)-[r:T]->(b),(r:A)", "fault 5 at 22"},
            {"CREATE (a)-[]->(b)", "fault 5 at 10"},
            {"CREATE (a)-->(b)", "fault 5 at 10"},
            {"CREATE (a)-[:T|S]->(b)", "fault 5 at 10"},
            {"CREATE (a)-[:T*1]->(b)", "fault 5 at 10"},
            {"CREATE (a)-[:T]-(b)", "fault 5 at 10"},
            {"CREATE (a)<-[:T]->(b)", "fault 5 at 10"},
            {"CREATE (a)<-[:T]-(b)", "done"},
            {"MATCH (a)<-->(b) RETURN 1", "fault 5 at 9"},
            {"MATCH (a)-[*0..1]-(b) RETURN 1", "fault 5 at 11"},
            {"MATCH (a)-[*0]-(b) RETURN 1", "fault 5 at 11"},
            {"MATCH (a)-[*3..2]-(b) RETURN 1", "fault 5 at 11"},
            {"MATCH (a)-[*1..3]-(b) RETURN 1", "done"},
            {"MATCH (a)-[*1..4]-(b) RETURN 1", "fault 5 at 9"},
            {"MATCH (a)<-[*4]-(b) RETURN 1", "fault 5 at 9"},
            {"MATCH (a)-[r*2]-(b) RETURN 1", "fault 5 at 12"},
            {"MATCH (a)-[*2{k:1}]-(b) RETURN 1", "fault 5 at 11"},
            {"MATCH (a),(b),(c),(d) RETURN 1", "done"},
            {"MATCH (a),(b),(c),(d),(e) RETURN 1", "fault 5 at 22"},
            {"MATCH (a)--(b)--(c)--(d) RETURN 1", "done"},
            {"MATCH (a)--(b)--(c)--(d)<--(e) RETURN 1", "fault 5 at 24"},
            {"MATCH (a)--(b),(c)-[*1..2]-(d) RETURN 1", "fault 5 at 18"},
            {"MATCH p=SHORTEST (a)-[*1..9]-(b),q=SHORTEST (a)--(b) RETURN 1", "done"},
            {"MATCH p=SHORTEST (a)-[*1..10]-(b) RETURN 1", "fault 5 at 22"},
            {"MATCH p=SHORTEST (a)-[*0..9]-(b) RETURN 1", "fault 5 at 22"},
            {"MATCH (a),(b),(c),p=SHORTEST (a)--(b) RETURN 1", "fault 5 at 18"},
            {"MATCH (p),(b),(c),p=SHORTEST (a)--(b) RETURN 1", "fault 4 at 18"},
            {"MATCH p=SHORTEST (a)-[r]-(b) RETURN 1", "fault 5 at 20"},
            {"MATCH p=SHORTEST (a)<-[{k:1}]-(b) RETURN 1", "fault 5 at 20"},
            {"MATCH p=SHORTEST (a)<-->(b) RETURN 1", "fault 5 at 20"},
            {"MATCH (a),(b) MATCH (c),(d) MATCH (e) RETURN 1", "done"},
            {"MATCH (a)-[*999999999999999999]-(b) RETURN 1", "fault 5 at 9"},
        });
    }

    private static void items() {
        faults("ITEMS", new String[][] {
            {"WITH 1 RETURN 1", "fault 6 at 5"},
            {"WITH 1 AS a,COUNT(*) RETURN 1", "fault 6 at 12"},
            {"MATCH (a) WITH (a) RETURN 1", "fault 6 at 15"},
            {"MATCH (a) WITH a.k RETURN 1", "fault 6 at 15"},
            {"MATCH (a) WITH b.k RETURN 1", "fault 4 at 15"},
            {"MATCH (a) WITH a RETURN a.k", "done"},
        });
    }

    private static void order() {
        faults("the first one", new String[][] {
            {"RETURN a $", "fault 1 at 9"},
            {"RETURN a 1", "fault 2 at 9"},
            {"RETURN a,((((((((((1", "fault 3 at 19"},
            {"MATCH (a)-[a]-(b)-[r*2]-(c) RETURN z", "fault 4 at 11"},
            {"CREATE (a)-[a]->(b)", "fault 5 at 10"},
            {"WITH a.k,1 RETURN 1", "fault 4 at 5"},
        });
    }

    private static void answers() {
        House h = new House("answers of fault()");
        h.due("RETURN 1 1", "fault 2 at 9");
        h.due("fault(2)", h.fault(2), 0);
        h.due("fault(3)", h.fault(3), 0);
        h.due("fault(4)", h.fault(4), -1);
        h.due("fault(-1)", h.fault(-1), -1);
        h.due("WITH 1 AS a RETURN a/0", "error 4 in 1");
        h.due("fault(0)", h.fault(0), 0);
        h.due("fault(1)", h.fault(1), 0);
        h.due("RETURN 5", "5");
        for (int what = 0; what < 4; what++) {
            h.due("fault(" + what + ")", h.fault(what), 0);
        }
        h.due("WORK of faults is none", h.state(6), 3);
    }
}
