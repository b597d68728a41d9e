/** The edges of VALUES and of X: how long, how great, of which kind, ALIKE or not, and THE ORDER of all kinds. */
public final class ValueEdgesTest {
    private static final String GREATEST = "(999999999999999999*9+223372036854775816)";
    private static final String LEAST = "(-999999999999999999*9-223372036854775817)";

    public static void main(String[] args) {
        textLengths();
        textCharacters();
        numberEdges();
        asProperties();
        alike();
        orderOfKinds();
        orderOfTexts();
        orderOfNumbers();
        orderOfThings();
        sums();
        products();
        quotients();
        operandKinds();
        nullOperands();
        functionKinds();
        comparisonKinds();
        comparisons();
        longTexts();
        namesOfNoThing();
        truthTables();
        bothSidesAreLookedAt();
        coalesce();
        degree();
        bindings();
        House.end();
    }

    private static void textLengths() {
        String most = "abcdefghijklmnopqrstuvwx";
        House.dueAlone("RETURN '',SIZE('')", "'',0");
        House.dueAlone("RETURN '" + most + "',SIZE('" + most + "')", "'" + most + "',24");
        House.dueFault(1, "RETURN ^'" + most + "y'");
        for (int left = 0; left <= 24; left++) {
            String sum = "'" + most.substring(0, left) + "'+'" + most.substring(left) + "'";
            House.dueAlone("RETURN " + sum, "'" + most + "'");
            House.dueAlone("RETURN " + sum + "+''", "'" + most + "'");
            House.dueAlone("RETURN " + sum + "+'y'", "error 5 in 0");
            House.dueAlone("RETURN 'y'+(" + sum + ")", "error 5 in 0");
        }
        House.dueAlone("RETURN '" + most + "'+'" + most + "'", "error 5 in 0");
        House.dueAlone("RETURN ''+''", "''");
    }

    private static void textCharacters() {
        for (int from = 32; from <= 126; from += 24) {
            StringBuilder text = new StringBuilder("'");
            for (int character = from; character < from + 24 && character <= 126; character++) {
                text.append(character == '\'' ? "" : "" + (char) character);
            }
            text.append("'");
            House.dueAlone("RETURN " + text, text.toString());
            House.dueAlone("CREATE (a{t:" + text + "}) RETURN a.t", text.toString());
        }
    }

    private static void numberEdges() {
        House.dueAlone("RETURN " + GREATEST, "9223372036854775807");
        House.dueAlone("RETURN " + GREATEST + "+1", "error 3 in 0");
        House.dueAlone("RETURN 1+" + GREATEST, "error 3 in 0");
        House.dueAlone("RETURN " + GREATEST + "-(-1)", "error 3 in 0");
        House.dueAlone("RETURN " + GREATEST + "+0," + GREATEST + "-0", "9223372036854775807,9223372036854775807");
        House.dueAlone("RETURN " + LEAST, "-9223372036854775808");
        House.dueAlone("RETURN " + LEAST + "-1", "error 3 in 0");
        House.dueAlone("RETURN -1+" + LEAST, "error 3 in 0");
        House.dueAlone("RETURN " + LEAST + "+0," + LEAST + "-0", "-9223372036854775808,-9223372036854775808");
        House.dueAlone("RETURN -" + GREATEST, "-9223372036854775807");
        House.dueAlone("RETURN -" + LEAST, "error 3 in 0");
        House.dueAlone("RETURN -(" + LEAST + "+1)", "9223372036854775807");
        House.dueAlone("RETURN 0-" + GREATEST + ",0-(" + LEAST + "+1)", "-9223372036854775807,9223372036854775807");
        House.dueAlone("RETURN 0-" + LEAST, "error 3 in 0");
        House.dueAlone("RETURN -1-" + LEAST, "9223372036854775807");
        House.dueAlone("RETURN " + GREATEST + "+" + LEAST, "-1");
        House.dueAlone("RETURN " + LEAST + "-" + LEAST, "0");
        House.dueAlone("RETURN " + GREATEST + "-" + LEAST, "error 3 in 0");
    }

    private static void asProperties() {
        House h = new House("as PROPERTIES");
        h.due("CREATE (a{a:" + GREATEST + ",b:" + LEAST + ",c:TRUE,d:FALSE,e:''}) RETURN a.a,a.b,a.c,a.d,a.e",
            "9223372036854775807,-9223372036854775808,true,false,''");
        h.due("null is none", h.ask("CREATE (a{k:NULL}) RETURN a.k"), "null");
        h.due("node(1)", h.node(1), "0 0 0 0");
        h.due("CREATE (a)-[r:T]->(b)", "done");
        String state = h.state("012357");
        h.due("MATCH (a)-[r]->(b) CREATE ({k:a})", "error 2 in 1");
        h.due("MATCH (a)-[r]->(b) CREATE ({k:r})", "error 2 in 1");
        h.due("MATCH (a)-[r]->(b) CREATE (a)-[:T{k:b}]->(b)", "error 2 in 1");
        h.due("MATCH (a)-[r]->(b) SET a.k=a", "error 2 in 1");
        h.due("MATCH (a)-[r]->(b) SET r.k=r", "error 2 in 1");
        h.due("nothing is changed", h.state("012357"), state);
    }

    private static void alike() {
        House h = new House("ALIKE");
        h.due("CREATE (a)-[r:T]->(b)", "done");
        String things = "MATCH (a)-[r]->(b) RETURN ";
        h.due(things + "a=a,a=b,r=r", "true,false,true");
        h.due(things + "a=r,a=0,r=0,a=FALSE,r='',a<>r", "false,false,false,false,false,true");
        h.due("RETURN 0=FALSE,1=TRUE,1='1',''=FALSE,''=0,'T'=TRUE", "false,false,false,false,false,false");
        h.due("RETURN 'a'='a ','a'='A',''='',' '='',' '=' '", "false,false,true,false,true");
        h.due("RETURN TRUE=TRUE,TRUE=FALSE,FALSE=FALSE,FALSE<>TRUE", "true,false,true,true");
        h.due("RETURN 0=0,0=-0,1=-1," + GREATEST + "=" + LEAST, "true,true,false,false");
        h.due("null is ALIKE to null where ROWS are", h.ask("MATCH (a) RETURN DISTINCT NULL"), "null");
        h.due("but no = tells it", h.ask("RETURN NULL=NULL,NULL<>NULL,NULL=0"), "null,null,null");
        h.due("MATCH (a)-[r]->() WITH a,r MATCH (x) RETURN COUNT(DISTINCT a),COUNT(DISTINCT COALESCE(NULL,r))", "1,1");
    }

    /** NODES, RELATIONSHIPS, texts, false, true, numbers, null: each one of which stands next to the next. */
    private static void orderOfKinds() {
        House h = new House("THE ORDER of kinds");
        h.due("CREATE ({n:1,v:7}),({n:1,v:TRUE}),({n:1,v:FALSE}),({n:1,v:'~'}),(a{n:1})-[:T]->(b{n:1}),({n:2})", "done");
        String mixed = "MATCH (a) OPTIONAL MATCH (a)-[r]->() OPTIONAL MATCH (b) WHERE a=b AND a.v IS NULL AND a.n=1 ";
        h.due(mixed + "RETURN COALESCE(COALESCE(r,a.v),b) AS x ORDER BY x", "N5|R0|'~'|false|true|7|null");
        h.due(mixed + "RETURN COALESCE(COALESCE(r,a.v),b) AS x ORDER BY x DESC", "null|7|true|false|'~'|R0|N5");
        h.due(mixed + "RETURN MIN(COALESCE(COALESCE(r,a.v),b)),MAX(COALESCE(COALESCE(r,a.v),b))", "N5,7");
        h.due(mixed + "WITH r,a.v AS v WHERE r IS NOT NULL OR v IS NOT NULL RETURN MIN(COALESCE(r,v))", "R0");
        h.due("MATCH (a) RETURN MIN(a.v),MAX(a.v)", "'~',7");
        h.due("MATCH (a) WHERE ID(a)<3 RETURN MIN(a.v),MAX(a.v)", "false,7");
        h.due("MATCH (a) WHERE ID(a)=1 OR ID(a)=2 RETURN MIN(a.v),MAX(a.v)", "false,true");
    }

    private static void orderOfTexts() {
        House h = new House("THE ORDER of texts");
        h.due("CREATE ({t:'b'}),({t:'aa'}),({t:'a'}),({t:'A'}),({t:' '}),({t:''}),({t:'~'}),({t:'a '}),({t:'9'}),({t:'10'})",
            "done");
        h.due("MATCH (a) RETURN a.t AS t ORDER BY t", "''|' '|'10'|'9'|'A'|'a'|'a '|'aa'|'b'|'~'");
        String[] begins = {"", "a", "abcdefg", "abcdefgh", "abcdefghijklmno", "abcdefghijklmnop", "abcdefghijklmnopqrstuvw"};
        for (String text : begins) {
            House.dueAlone("RETURN '" + text + "'<'" + text + " ','" + text + " '>'" + text + "','" + text + " '<'" + text + "~'",
                "true,true,true");
            House.dueAlone("RETURN '" + text + "'<'" + text + "','" + text + "'<='" + text + "'", "false,true");
        }
    }

    private static void orderOfNumbers() {
        House h = new House("THE ORDER of numbers");
        h.due("CREATE ({n:1}),({n:0}),({n:-1}),({n:" + GREATEST + "}),({n:" + LEAST + "}),({n:10}),({n:9})", "done");
        h.due("MATCH (a) RETURN a.n AS n ORDER BY n",
            "-9223372036854775808|-1|0|1|9|10|9223372036854775807");
        h.due("MATCH (a) RETURN MIN(a.n),MAX(a.n)", "-9223372036854775808,9223372036854775807");
        h.due("RETURN " + LEAST + "<" + GREATEST + ",0<1,0<0,0<=0,-1<0,1>=1", "true,true,false,true,true,true");
    }

    private static void orderOfThings() {
        House h = new House("THE ORDER of things");
        h.due("CREATE (a)-[:T]->(a)-[:T]->(a)-[:T]->(b),(c)", "done");
        h.due("MATCH (a) RETURN a ORDER BY a DESC", "N2|N1|N0");
        h.due("MATCH ()-[r]->() RETURN r ORDER BY r DESC", "R2|R1|R0");
        h.due("MATCH (a) RETURN MIN(a),MAX(a)", "N0,N2");
        h.due("MATCH ()-[r]->() RETURN MIN(r),MAX(r)", "R0,R2");
    }

    private static void sums() {
        House.dueAlone("RETURN 'a'+'b',1+2,1-2,0-0", "'ab',3,-1,0");
        House.dueAlone("RETURN " + GREATEST + "+" + GREATEST, "error 3 in 0");
        House.dueAlone("RETURN " + LEAST + "+" + LEAST, "error 3 in 0");
    }

    private static void products() {
        House.dueAlone("RETURN " + GREATEST + "*1," + GREATEST + "*-1", "9223372036854775807,-9223372036854775807");
        House.dueAlone("RETURN " + LEAST + "*1,1*" + LEAST, "-9223372036854775808,-9223372036854775808");
        House.dueAlone("RETURN " + LEAST + "*-1", "error 3 in 0");
        House.dueAlone("RETURN -1*" + LEAST, "error 3 in 0");
        House.dueAlone("RETURN " + LEAST + "*0,0*" + LEAST + ",0*" + GREATEST, "0,0,0");
        House.dueAlone("RETURN 4611686018427387904*2", "fault 1 at 7");
        House.dueAlone("RETURN " + GREATEST + "/2*2", "9223372036854775806");
        House.dueAlone("RETURN (" + GREATEST + "/2+1)*2", "error 3 in 0");
        House.dueAlone("RETURN (" + GREATEST + "/2+1)*-2", "-9223372036854775808");
        House.dueAlone("RETURN -2*(" + GREATEST + "/2+2)", "error 3 in 0");
        House.dueAlone("RETURN 3037000499*3037000499", "9223372030926249001");
        House.dueAlone("RETURN 3037000500*3037000500", "error 3 in 0");
        House.dueAlone("RETURN 4294967296*4294967296", "error 3 in 0");
    }

    private static void quotients() {
        House.dueAlone("RETURN 1/0", "error 4 in 0");
        House.dueAlone("RETURN 0/0", "error 4 in 0");
        House.dueAlone("RETURN 1%0", "error 4 in 0");
        House.dueAlone("RETURN " + LEAST + "/0", "error 4 in 0");
        House.dueAlone("RETURN 1/1,1/-1,0/1,0%1,1%1,1%-1", "1,-1,0,0,0,0");
        House.dueAlone("RETURN 7/2,-7/2,7/-2,-7/-2", "3,-3,-3,3");
        House.dueAlone("RETURN 7%2,-7%2,7%-2,-7%-2", "1,-1,1,-1");
        House.dueAlone("RETURN " + LEAST + "/-1", "error 3 in 0");
        House.dueAlone("RETURN " + LEAST + "%-1," + LEAST + "/1," + LEAST + "%1", "0,-9223372036854775808,0");
        House.dueAlone("RETURN " + GREATEST + "/-1," + GREATEST + "%-1", "-9223372036854775807,0");
    }

    private static void operandKinds() {
        String[] wrong = {"1+'a'", "'a'+1", "TRUE+1", "1+TRUE", "TRUE+TRUE", "'a'+TRUE", "'a'-'b'", "'a'*2", "2*'a'", "'a'/1",
            "1/'a'", "'a'%1", "1%TRUE", "-'a'", "-TRUE", "1/TRUE", "'a'/0"};
        for (String x : wrong) {
            House.dueAlone("RETURN " + x, "error 2 in 0");
        }
        String[] withThings = {"a+1", "1+a", "a+a", "a+'x'", "'x'+a", "r*1", "-a", "-r", "a-r", "a/r", "1%r"};
        for (String x : withThings) {
            House.dueAlone("CREATE (a)-[r:T]->(b) RETURN " + x, "error 2 in 1");
        }
    }

    private static void nullOperands() {
        String[] all = {"NULL+1", "1+NULL", "NULL+'a'", "'a'+NULL", "NULL+TRUE", "TRUE+NULL", "NULL-1", "1-NULL", "NULL*1",
            "'a'*NULL", "NULL/1", "NULL/0", "1/NULL", "NULL%0", "0%NULL", "-NULL", "NULL=1", "1=NULL", "NULL=NULL", "NULL<>1",
            "NULL<>NULL", "NULL<1", "1<NULL", "NULL<=NULL", "'a'<=NULL", "NULL>1", "TRUE>NULL", "NULL>=1", "1>=NULL",
            "ID(NULL)", "TYPE(NULL)", "SIZE(NULL)", "DEGREE(NULL)", "NULL+NULL"};
        for (String x : all) {
            House.dueAlone("RETURN " + x, "null");
        }
        House.dueAlone("WITH NULL AS a RETURN a.k,a:A", "null,null");
        House.dueAlone("CREATE (a)-[r:T]->(b) RETURN a+NULL,NULL-r,a=NULL,r<NULL", "null,null,null,null");
    }

    private static void functionKinds() {
        String[] wrong = {"ID(1)", "ID('a')", "ID(TRUE)", "TYPE(1)", "TYPE('a')", "TYPE(FALSE)", "TYPE(a)", "SIZE(1)", "SIZE(TRUE)",
            "SIZE(a)", "SIZE(r)", "DEGREE(1)", "DEGREE('a')", "DEGREE(TRUE)", "DEGREE(r)"};
        for (String x : wrong) {
            House.dueAlone("CREATE (a)-[r:T]->(b) RETURN " + x, "error 2 in 1");
        }
        House.dueAlone("CREATE (a)-[r:T]->(b) RETURN ID(a),ID(r),ID(b),TYPE(r),SIZE(TYPE(r)),DEGREE(a)", "0,0,1,'T',1,1");
        House.dueAlone("CREATE (a)-[r:Abcdefg8]->(b) RETURN TYPE(r)", "'Abcdefg8'");
        House.dueAlone("CREATE (a)-[r:A]->(b) RETURN TYPE(r)='A',TYPE(r)+'bc',TYPE(r)<'B'", "true,'Abc',true");
    }

    private static void comparisonKinds() {
        String[] kinds = {"1", "'a'", "TRUE", "a", "r"};
        for (int i = 0; i < kinds.length; i++) {
            for (int k = 0; k < kinds.length; k++) {
                String due = i == k && i < 2 ? "false,true,false,true" : "null,null,null,null";
                String x = kinds[i] + "<" + kinds[k] + "," + kinds[i] + "<=" + kinds[k] + "," + kinds[i] + ">" + kinds[k] + ","
                    + kinds[i] + ">=" + kinds[k];
                House.dueAlone("CREATE (a)-[r:T]->(b) RETURN " + x, due);
                String same = i == k ? "true,false" : "false,true";
                House.dueAlone("CREATE (a)-[r:T]->(b) RETURN " + kinds[i] + "=" + kinds[k] + "," + kinds[i] + "<>" + kinds[k], same);
            }
        }
    }

    private static void comparisons() {
        String[][] pairs = {{"1", "2"}, {"-1", "0"}, {"9", "10"}, {"'a'", "'b'"}, {"''", "'a'"}, {"'a'", "'aa'"}, {"'B'", "'a'"}};
        for (String[] pair : pairs) {
            House.dueAlone("RETURN " + signs(pair[0], pair[1]), "false,true,true,true,false,false");
            House.dueAlone("RETURN " + signs(pair[1], pair[0]), "false,true,false,false,true,true");
            House.dueAlone("RETURN " + signs(pair[0], pair[0]), "true,false,false,true,false,true");
        }
    }

    private static String signs(String a, String b) {
        return a + "=" + b + "," + a + "<>" + b + "," + a + "<" + b + "," + a + "<=" + b + "," + a + ">" + b + "," + a + ">=" + b;
    }

    /** Texts that are the same but for one character, and what is reckoned from long ones. */
    private static void longTexts() {
        String text = "abcdefghijklmnopqrstuvwx";
        for (int i = 0; i < 24; i++) {
            String other = text.substring(0, i) + "~" + text.substring(i + 1);
            House h = new House("character " + i);
            h.due("CREATE (a{t:'" + text + "'}),(b{t:'" + other + "'})", "done");
            h.due("MATCH (a) RETURN DISTINCT a.t", "'" + text + "'|'" + other + "'");
            h.due("MATCH (a) RETURN COUNT(DISTINCT a.t)", "2");
            h.due("MATCH (a) RETURN a.t,COUNT(*)", "'" + text + "',1|'" + other + "',1");
            h.due("MATCH (a{t:'" + other + "'}) RETURN a", "N1");
            h.due("MATCH (a) WHERE a.t='" + text + "' RETURN a", "N0");
            h.due("MATCH (a) RETURN a.t<'" + other + "' AS b ORDER BY b", "false|true");
            h.due("MATCH (a) SET a.t='" + text + "'", "done");
            h.due("one CHANGE", h.state(2), 5 + 2);
            h.due("SIZE", h.ask("MATCH (a) RETURN DISTINCT SIZE(a.t),SIZE(a.t)=24"), "24,true");
        }
        for (int size = 0; size <= 24; size++) {
            String part = text.substring(0, size);
            House.dueAlone("RETURN SIZE('" + part + "')=" + size + ",('" + part + "'='" + part + "')=TRUE,('" + part + "'<'') IS NULL",
                "true,true,false");
            House.dueAlone("CREATE (a),(b) SET a.s=SIZE('" + part + "'),b.s=" + size + " RETURN a.s=b.s", "true");
            House.dueAlone("CREATE (a{n:SIZE('" + part + "')}) MATCH (a{n:" + size + "}) RETURN a", "N0");
        }
    }

    private static void namesOfNoThing() {
        String[] values = {"1", "'a'", "TRUE"};
        for (String value : values) {
            House.dueAlone("WITH " + value + " AS a RETURN a.k", "error 2 in 1");
            House.dueAlone("WITH " + value + " AS a RETURN a:A", "error 2 in 1");
        }
        House.dueAlone("CREATE (a:A{k:1})-[r:T{k:2}]->(b) RETURN a.k,a.j,r.k,r.j,b.k", "1,null,2,null,null");
        House.dueAlone("CREATE (a:A)-[r:T]->(b) RETURN a:A,a:T,r:T,r:A,b:A", "true,false,true,false,false");
    }

    private static void truthTables() {
        String[] names = {"FALSE", "TRUE", "NULL"};
        String[] values = {"false", "true", "null"};
        int[][] and = {{0, 0, 0}, {0, 1, 2}, {0, 2, 2}};
        int[][] or = {{0, 1, 2}, {1, 1, 1}, {2, 1, 2}};
        int[][] xor = {{0, 1, 2}, {1, 0, 2}, {2, 2, 2}};
        for (int a = 0; a < 3; a++) {
            for (int b = 0; b < 3; b++) {
                House.dueAlone("RETURN " + names[a] + " AND " + names[b] + "," + names[a] + " OR " + names[b] + "," + names[a]
                    + " XOR " + names[b], values[and[a][b]] + "," + values[or[a][b]] + "," + values[xor[a][b]]);
            }
            String[] others = {"1", "'a'", "a", "r"};
            for (String other : others) {
                for (String sign : new String[] {" AND ", " OR ", " XOR "}) {
                    House.dueAlone("CREATE (a)-[r:T]->(b) RETURN " + names[a] + sign + other, "error 2 in 1");
                    House.dueAlone("CREATE (a)-[r:T]->(b) RETURN " + other + sign + names[a], "error 2 in 1");
                }
                House.dueAlone("CREATE (a)-[r:T]->(b) RETURN NOT " + other, "error 2 in 1");
            }
        }
        House.dueAlone("RETURN NOT FALSE,NOT TRUE,NOT NULL", "true,false,null");
        House.dueAlone("RETURN NULL IS NULL,NULL IS NOT NULL,0 IS NULL,'' IS NOT NULL", "true,false,false,true");
        House.dueAlone("CREATE (a) RETURN a IS NULL,a.k IS NULL,a IS NOT NULL", "false,true,true");
    }

    private static void bothSidesAreLookedAt() {
        String[][] rows = {{"FALSE AND 1/0=1", "4"}, {"TRUE OR 1/0=1", "4"}, {"1 AND 1/0=1", "4"}, {"NULL XOR 1/0=1", "4"},
            {"1/0+'a'*2", "4"}, {"'a'*2+1/0", "2"}, {"NULL+1/0", "4"}, {"NULL=1/0", "4"}, {"'a'<1/0", "4"}, {"'a'-1/0", "4"},
            {"1/0 AND 'a'+1", "4"}, {"'a'+1 AND 1/0", "2"}, {"COALESCE(1,1/0)", "4"}, {"COALESCE(1/0,'a'+1)", "4"},
            {"COALESCE('a'+1,1/0)", "2"}};
        for (String[] row : rows) {
            House.dueAlone("RETURN " + row[0], "error " + row[1] + " in 0");
        }
    }

    private static void coalesce() {
        House.dueAlone("RETURN COALESCE(NULL,NULL),COALESCE(NULL,1),COALESCE(2,NULL),COALESCE(2,1)", "null,1,2,2");
        House.dueAlone("CREATE (a)-[r:T]->(b) RETURN COALESCE(NULL,a),COALESCE(r,a),COALESCE('',1),COALESCE(FALSE,TRUE)",
            "N0,R0,'',false");
    }

    private static void degree() {
        House h = new House("DEGREE");
        h.due("CREATE (a:A),(b:B),(a)-[:T]->(b),(b)-[:T]->(a),(b)-[:T]->(b)", "done");
        h.due("none is as both", h.ask("MATCH (a:A) RETURN DEGREE(a)"), "2");
        h.due("one is as both, and counts once", h.ask("MATCH (a:B) RETURN DEGREE(a)"), "3");
        h.due("CREATE (a) RETURN DEGREE(a)", "0");
    }

    private static void bindings() {
        House.dueAlone("RETURN TRUE OR TRUE XOR TRUE,TRUE XOR TRUE OR TRUE", "true,true");
        House.dueAlone("RETURN TRUE XOR FALSE AND FALSE,FALSE AND FALSE XOR TRUE", "true,true");
        House.dueAlone("RETURN NOT FALSE AND FALSE,NOT TRUE OR TRUE,NOT NOT TRUE", "false,true,true");
        House.dueAlone("RETURN NOT 1=2,NOT NULL IS NULL", "true,false");
        House.dueAlone("RETURN 1+2=3,2*2>3,1=2-1 AND 2<3", "true,true,true");
        House.dueAlone("RETURN 1+2*3,2*3+1,7-2-1,8/4/2,7%4%2,8/2*3", "7,7,4,1,1,12");
        House.dueAlone("RETURN -2*-3,-2+3,2--3,2*-3,- - 2,-7%4", "6,1,5,-6,2,-3");
        House.dueAlone("WITH 461168601842738790*10+4 AS a RETURN -a*2,-a-a", "-9223372036854775808,-9223372036854775808");
        House.dueAlone("WITH 461168601842738790*10+4 AS a RETURN -(a*2)", "error 3 in 1");
        House.dueAlone("RETURN (1+2)*3,-(1+2),NOT (TRUE AND FALSE)", "9,-3,true");
        House.dueAlone("RETURN 1+NULL IS NULL,(1=2) IS NOT NULL,(1<2)=TRUE", "true,true,true");
    }
}
