/** Promise 3: what an X is, and the ERRORS that it may come to. */
public final class ValueTest {
    public static void main(String[] args) {
        numbers();
        texts();
        truths();
        comparisons();
        things();
        nulls();
        order();
        House.end();
    }

    private static void rows(String name, String[][] rows) {
        House h = new House(name);
        for (String[] row : rows) {
            h.due("RETURN " + row[0], row[1]);
        }
    }

    private static void numbers() {
        String max = "(999999999999999999*9+223372036854775807+9)";
        rows("numbers", new String[][] {
            {"1+2*3-4/2%3", "5"},
            {"10-3-2,100/5/2,100%7*2", "5,10,4"},
            {"7/2,-7/2,7/-2,-7/-2", "3,-3,-3,3"},
            {"7%2,-7%2,7%-2,-7%-2", "1,-1,1,-1"},
            {"-2*3,--2,1--1", "-6,2,2"},
            {max, "9223372036854775807"},
            {max + "+1", "error 3 in 0"},
            {"-" + max + "-1", "-9223372036854775808"},
            {"-" + max + "-2", "error 3 in 0"},
            {"-(-" + max + "-1)", "error 3 in 0"},
            {"(-" + max + "-1)/-1", "error 3 in 0"},
            {"(-" + max + "-1)%-1", "0"},
            {"(-" + max + "-1)*-1", "error 3 in 0"},
            {"-1*(-" + max + "-1)", "error 3 in 0"},
            {"(-" + max + "-1)*1", "-9223372036854775808"},
            {"0-(-" + max + "-1)", "error 3 in 0"},
            {"-1-(-" + max + "-1)", "9223372036854775807"},
            {max + "*2", "error 3 in 0"},
            {max + "*0", "0"},
            {"1/0", "error 4 in 0"},
            {"1%0", "error 4 in 0"},
            {"1+TRUE", "error 2 in 0"},
            {"1+'a'", "error 2 in 0"},
            {"'a'+1", "error 2 in 0"},
            {"'a'-'a'", "error 2 in 0"},
            {"-'a'", "error 2 in 0"},
            {"-TRUE", "error 2 in 0"},
        });
    }

    private static void texts() {
        rows("texts", new String[][] {
            {"'ab'+'c'+''", "'abc'"},
            {"'abcdefgh'+'ijklmnop'+'qrstuvwx'", "'abcdefghijklmnopqrstuvwx'"},
            {"'abcdefgh'+'ijklmnop'+'qrstuvwx'+''", "'abcdefghijklmnopqrstuvwx'"},
            {"'abcdefgh'+'ijklmnop'+'qrstuvwx'+'y'", "error 5 in 0"},
            {"SIZE(''),SIZE('abcdefghi'),SIZE('a b')", "0,9,3"},
            {"SIZE(1)", "error 2 in 0"},
            {"' ~!'", "' ~!'"},
            {"'abcdefg'+'hi'='abcdefghi'", "true"},
        });
    }

    private static void truths() {
        rows("truths", new String[][] {
            {"TRUE AND TRUE,TRUE AND FALSE,FALSE AND TRUE,FALSE AND FALSE", "true,false,false,false"},
            {"TRUE OR TRUE,TRUE OR FALSE,FALSE OR TRUE,FALSE OR FALSE", "true,true,true,false"},
            {"TRUE XOR TRUE,TRUE XOR FALSE,FALSE XOR TRUE,FALSE XOR FALSE", "false,true,true,false"},
            {"NULL AND TRUE,TRUE AND NULL,NULL AND FALSE,FALSE AND NULL,NULL AND NULL", "null,null,false,false,null"},
            {"NULL OR TRUE,TRUE OR NULL,NULL OR FALSE,FALSE OR NULL,NULL OR NULL", "true,true,null,null,null"},
            {"NULL XOR TRUE,FALSE XOR NULL,NOT NULL,NOT TRUE,NOT FALSE", "null,null,null,false,true"},
            {"TRUE OR TRUE AND FALSE,TRUE XOR TRUE OR TRUE,TRUE OR TRUE XOR TRUE", "true,true,true"},
            {"FALSE XOR TRUE AND FALSE,NOT FALSE AND FALSE,NOT 1=2", "false,false,true"},
            {"FALSE AND 1", "error 2 in 0"},
            {"1 OR TRUE", "error 2 in 0"},
            {"NULL AND 'a'", "error 2 in 0"},
            {"NULL XOR 0", "error 2 in 0"},
            {"NOT 1", "error 2 in 0"},
            {"FALSE AND 1/0=1", "error 4 in 0"},
            {"TRUE OR 1/0=1", "error 4 in 0"},
            {"1 AND 1/0=1", "error 4 in 0"},
        });
    }

    private static void comparisons() {
        rows("comparisons", new String[][] {
            {"1=1,1=2,'a'='a','a'='b',TRUE=TRUE,TRUE=FALSE", "true,false,true,false,true,false"},
            {"1='1',1=TRUE,1<>TRUE,'a'<>'a'", "false,false,true,false"},
            {"1<2,2<1,1<=1,2>=3,3>2,2>2", "true,false,true,false,true,false"},
            {"'a'<'b','a'<'aa','B'<'a','abcdefgh'<'abcdefgha','abcdefghb'<'abcdefgha'", "true,true,true,true,false"},
            {"''<'a',''<='',-1<0,'10'<'9'", "true,true,true,true"},
            {"TRUE<FALSE,FALSE<TRUE,1<'a','a'<1,1>=TRUE", "null,null,null,null,null"},
            {"NULL=NULL,NULL<>NULL,1=NULL,NULL<1,1>=NULL", "null,null,null,null,null"},
            {"NULL IS NULL,1 IS NULL,NULL IS NOT NULL,1 IS NOT NULL,1=NULL IS NOT NULL", "fault 2 at 68"},
            {"NULL IS NULL,1 IS NULL,NULL IS NOT NULL,(1=NULL) IS NULL,1+NULL IS NULL", "true,false,false,true,true"},
            {"1+1=2,2*3>5,1+2<2+2", "true,true,true"},
        });
    }

    private static void things() {
        House h = new House("things");
        h.due("CREATE (a:A:B{k:1})-[r:Tu{w:'x'}]->(b),(b)-[:S]->(b),(a)-[:S]->(b)", "done");
        h.due("MATCH (a:A)-[r:Tu]->(b) RETURN a,r,b,a.k,r.w,b.k", "N0,R0,N1,1,'x',null");
        h.due("MATCH (a:A)-[r:Tu]->(b) RETURN a:A,a:C,r:Tu,r:S,b:A", "true,false,true,false,false");
        h.due("MATCH (a:A)-[r:Tu]->(b) RETURN ID(a),ID(r),ID(b),TYPE(r),DEGREE(a),DEGREE(b)", "0,0,1,'Tu',2,3");
        h.due("MATCH (a:A)-[r:Tu]->(b) RETURN a=a,a=b,a<>r,r=r,a<b", "true,false,true,true,null");
        h.due("RETURN ID(1)", "error 2 in 0");
        h.due("MATCH (a:A) RETURN TYPE(a)", "error 2 in 1");
        h.due("MATCH (a:A) RETURN SIZE(a)", "error 2 in 1");
        h.due("MATCH (a:A) RETURN a+1", "error 2 in 1");
        h.due("MATCH ()-[r:Tu]->() RETURN DEGREE(r)", "error 2 in 1");
        h.due("WITH 1 AS a RETURN a.k", "error 2 in 1");
        h.due("WITH 'a' AS a RETURN a:A", "error 2 in 1");
        h.due("WITH TRUE AS a RETURN a.k", "error 2 in 1");
    }

    private static void nulls() {
        rows("null", new String[][] {
            {"NULL+TRUE,'a'+NULL,NULL-1,NULL/0,0%NULL,-NULL", "null,null,null,null,null,null"},
            {"ID(NULL),TYPE(NULL),SIZE(NULL),DEGREE(NULL)", "null,null,null,null"},
            {"COALESCE(NULL,1),COALESCE(2,1),COALESCE(NULL,NULL)", "1,2,null"},
            {"COALESCE(1,1/0)", "error 4 in 0"},
            {"COALESCE(1/0,1)", "error 4 in 0"},
        });
        House h = new House("null NAMES");
        h.due("WITH NULL AS a RETURN a.k,a:A", "null,null");
    }

    private static void order() {
        House h = new House("the ORDER");
        h.due("CREATE (:K{v:2}),(:K{v:'b'}),(:K{v:TRUE}),(:K{v:FALSE}),(:K{v:'ab'}),(:K{v:-5}),(:K),(:K{v:'a'})", "done");
        h.due("MATCH (a:K) RETURN a.v AS v ORDER BY v", "'a'|'ab'|'b'|false|true|-5|2|null");
        h.due("MATCH (a:K) RETURN a.v AS v ORDER BY v DESC", "null|2|-5|true|false|'b'|'ab'|'a'");
        h.due("MATCH (a:K) RETURN MIN(a.v),MAX(a.v)", "'a',2");
        h.due("CREATE (:A)-[:T]->(:B)", "done");
        h.due("MATCH (a:A)-[r]->() RETURN COALESCE(NULL,r) AS x ORDER BY x", "R0");
        h.due("MATCH (a:B) OPTIONAL MATCH (a)<-[r]-(b) WITH a,r,b MATCH (c:K) WHERE ID(c)<3 "
            + "WITH c.v AS v,a,r WITH DISTINCT COALESCE(v,a) AS v,a,r RETURN v,a,r ORDER BY v,a,r",
            "'b',N9,R0|true,N9,R0|2,N9,R0");
    }
}
