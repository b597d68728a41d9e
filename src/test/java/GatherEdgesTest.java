/** The edges of WITH and RETURN: no ROWS, one, ALIKE ones, AGGREGATES of none, SKIP and LIMIT of any NUMBER. */
public final class GatherEdgesTest {
    private static final String GREATEST = "(999999999999999999*9+223372036854775816)";

    public static void main(String[] args) {
        noRows();
        aggregatesOfNone();
        aggregatesOfNull();
        groups();
        groupsOfAlikeValues();
        lookedAtRowByRow();
        sumsBeyond();
        sumsOfOtherKinds();
        distinctAggregates();
        distinctRows();
        distinctAheadOfTheRest();
        orderStays();
        orderTurnedRound();
        orderByTwoAndThree();
        orderErrors();
        skip();
        limit();
        skipAndLimit();
        whereBehindAll();
        counts();
        House.end();
    }

    /** n: 0 1 2 3, g: 'x' 'y' 'x' null. */
    private static House four(String name) {
        House h = new House(name);
        h.due("CREATE ({n:0,g:'x'}),({n:1,g:'y'}),({n:2,g:'x'}),({n:3})", "done");
        return h;
    }

    private static void noRows() {
        House h = new House("of no ROWS");
        h.due("MATCH (a) RETURN a", "done");
        h.due("columns", h.table(0) + " " + h.table(1), "0 1");
        h.due("MATCH (a) RETURN DISTINCT a ORDER BY a SKIP 1 LIMIT 1", "done");
        h.due("MATCH (a) RETURN a,COUNT(*)", "done");
        h.due("columns", h.table(0) + " " + h.table(1), "0 2");
        h.due("MATCH (a) WITH a WHERE 1/0=1 RETURN a", "done");
        h.due("MATCH (a) RETURN 1/0", "done");
        h.due("MATCH (a) RETURN a ORDER BY 1/0", "done");
    }

    private static void aggregatesOfNone() {
        House h = new House("AGGREGATES of no ROWS");
        h.due("MATCH (a) RETURN COUNT(*),COUNT(a),SUM(a),MIN(a),MAX(a),COUNT(DISTINCT a)", "0,0,0,null,null,0");
        h.due("MATCH (a) RETURN SUM(DISTINCT a),MIN(DISTINCT a),MAX(DISTINCT a)", "0,null,null");
        h.due("just one ROW", h.ask("MATCH (a) WITH COUNT(*) AS n RETURN n,COUNT(*)"), "0,1");
        h.due("but not with other ITEMS", h.ask("MATCH (a) RETURN COUNT(*),1"), "done");
        h.due("MATCH (a) RETURN COUNT(*) SKIP 1", "done");
        h.due("MATCH (a) WITH COUNT(*) AS n WHERE n>0 RETURN n", "done");
    }

    private static void aggregatesOfNull() {
        House h = four("null is left out");
        h.due("MATCH (a) RETURN COUNT(*),COUNT(a.g),COUNT(a.z),COUNT(DISTINCT a.g),COUNT(DISTINCT a.z)", "4,3,0,2,0");
        h.due("MATCH (a) RETURN SUM(a.z),MIN(a.z),MAX(a.z)", "0,null,null");
        h.due("MATCH (a) RETURN MIN(a.g),MAX(a.g)", "'x','y'");
        h.due("MATCH (a) WHERE ID(a)>1 RETURN MIN(a.g),MAX(a.g),COUNT(a.g)", "'x','x',1");
    }

    private static void groups() {
        House h = four("a ROW for each different row");
        h.due("in the order in which they come first", h.ask("MATCH (a) RETURN a.g,COUNT(*)"), "'x',2|'y',1|null,1");
        h.due("MATCH (a) RETURN COUNT(*),a.g,SUM(a.n)", "2,'x',2|1,'y',1|1,null,3");
        h.due("MATCH (a) RETURN a.g,a.n,COUNT(*)", "'x',0,1|'y',1,1|'x',2,1|null,3,1");
        h.due("MATCH (a) RETURN a.z,COUNT(*)", "null,4");
        h.due("MATCH (a) WITH a ORDER BY a.n DESC RETURN a.g,MIN(a.n),MAX(a.n)", "null,3,3|'x',0,2|'y',1,1");
        h.due("ITEMS that stand behind", h.ask("MATCH (a) RETURN SUM(a.n),MAX(a.n),a.g='x'"), "2,2,true|1,1,false|3,3,null");
        h.due("without AGGREGATES no ROW goes", h.ask("MATCH (a) RETURN a.z"), "null|null|null|null");
    }

    private static void groupsOfAlikeValues() {
        House h = new House("ALIKE");
        h.due("CREATE ({v:1}),({v:'1'}),({v:TRUE}),({v:1}),(),({v:''}),()", "done");
        h.due("MATCH (a) RETURN a.v,COUNT(*)", "1,2|'1',1|true,1|null,2|'',1");
        h.due("MATCH (a) RETURN COUNT(DISTINCT a.v)", "4");
        h.due("MATCH (a) RETURN DISTINCT a.v", "1|'1'|true|null|''");
    }

    private static void lookedAtRowByRow() {
        House h = four("ROW by ROW");
        h.due("X of ITEMS from left to right", h.ask("MATCH (a) RETURN 1/(a.n-1),a.n+'a'"), "error 2 in 1");
        h.due("MATCH (a) RETURN 1/a.n,a.n+'a'", "error 4 in 1");
        h.due("X ahead of AGGREGATES of this ROW", h.ask("MATCH (a) RETURN SUM(a.g),1/a.n"), "error 4 in 1");
        h.due("AGGREGATES ahead of X of the next", h.ask("MATCH (a) RETURN SUM(a.g),1/(a.n-1)"), "error 2 in 1");
        h.due("AGGREGATES from left to right", h.ask("MATCH (a) RETURN SUM(" + GREATEST + "*(1-a.n/2*2)),SUM(a.g)"), "error 2 in 1");
        h.due("MATCH (a) WITH a.n AS n RETURN SUM(" + GREATEST + "-n),SUM(n)", "error 3 in 2");
        h.due("no X of COUNT(*)", h.ask("MATCH (a) RETURN COUNT(*)"), "4");
    }

    private static void sumsBeyond() {
        House h = four("SUM");
        h.due("of one that is greatest", h.ask("RETURN SUM(" + GREATEST + ")"), "9223372036854775807");
        h.due("no more", h.ask("MATCH (a) WHERE a.n<2 RETURN SUM(" + GREATEST + "*a.n)"), "9223372036854775807");
        h.due("one more", h.ask("MATCH (a) WHERE a.n<2 RETURN SUM(" + GREATEST + "*a.n+1-a.n)"), "error 3 in 1");
        h.due("of a part", h.ask("MATCH (a) WHERE a.n<3 RETURN SUM(" + GREATEST + "*(1-a.n/2*2))"), "error 3 in 1");
        h.due("not of a part", h.ask("MATCH (a) WHERE a.n<3 RETURN SUM(" + GREATEST + "*(1-a.n%2*2))"), "9223372036854775807");
        h.due("the least", h.ask("MATCH (a) WHERE a.n<2 RETURN SUM(-" + GREATEST + "*a.n+a.n-1)"), "-9223372036854775808");
        h.due("one less", h.ask("MATCH (a) WHERE a.n<2 RETURN SUM(-" + GREATEST + "*a.n+2*(a.n-1))"), "error 3 in 1");
    }

    private static void sumsOfOtherKinds() {
        String[] wrong = {"'a'", "TRUE", "''", "FALSE"};
        for (String value : wrong) {
            House.dueAlone("RETURN SUM(" + value + ")", "error 2 in 0");
            House.dueAlone("RETURN SUM(DISTINCT " + value + ")", "error 2 in 0");
            House.dueAlone("RETURN COUNT(" + value + ")", "1");
        }
        House.dueAlone("CREATE (a)-[r:T]->(b) RETURN SUM(a)", "error 2 in 1");
        House.dueAlone("CREATE (a)-[r:T]->(b) RETURN SUM(r)", "error 2 in 1");
        House.dueAlone("CREATE (a)-[r:T]->(b) RETURN COUNT(a),MIN(a),MAX(r)", "1,N0,R0");
        House.dueAlone("RETURN SUM(NULL)", "0");
        House.dueAlone("RETURN MIN(TRUE),MAX('a'),MIN(-1)", "true,'a',-1");
    }

    private static void distinctAggregates() {
        House h = new House("DISTINCT: each only once");
        h.due("CREATE ({v:5,g:1}),({v:5,g:1}),({v:3,g:1}),({v:5,g:2}),({g:2})", "done");
        h.due("MATCH (a) RETURN SUM(a.v),SUM(DISTINCT a.v),COUNT(a.v),COUNT(DISTINCT a.v)", "18,8,4,2");
        h.due("of each row", h.ask("MATCH (a) RETURN a.g,SUM(DISTINCT a.v),COUNT(DISTINCT a.v)"), "1,8,2|2,5,1");
        h.due("MATCH (a) RETURN MIN(DISTINCT a.v),MAX(DISTINCT a.v)", "3,5");
        h.due("of NODES", h.ask("MATCH (a),(b) RETURN COUNT(DISTINCT a),COUNT(a)"), "5,25");
    }

    private static void distinctRows() {
        House h = four("DISTINCT");
        h.due("the first one", h.ask("MATCH (a) RETURN DISTINCT a.g"), "'x'|'y'|null");
        h.due("in all columns", h.ask("MATCH (a) RETURN DISTINCT a.g,a.n/2"), "'x',0|'y',0|'x',1|null,1");
        h.due("MATCH (a) RETURN DISTINCT a", "N0|N1|N2|N3");
        h.due("MATCH (a),(b) RETURN DISTINCT b", "N0|N1|N2|N3");
        h.due("of six columns", h.ask("MATCH (a),(b) RETURN DISTINCT 1,2,3,4,5,a.n/2"), "1,2,3,4,5,0|1,2,3,4,5,1");
        h.due("with AGGREGATES", h.ask("MATCH (a) RETURN DISTINCT COUNT(*),a.n>=0"), "4,true");
        h.due("MATCH (a) WITH a.n AS n,COUNT(*) AS c RETURN DISTINCT c", "1");
    }

    private static void distinctAheadOfTheRest() {
        House h = four("DISTINCT ahead of the rest");
        h.due("MATCH (a) RETURN DISTINCT a.g AS g ORDER BY g DESC SKIP 1", "'y'|'x'");
        h.due("MATCH (a) RETURN DISTINCT a.g AS g LIMIT 2", "'x'|'y'");
        h.due("MATCH (a) WITH DISTINCT a.g AS g SKIP 2 RETURN g", "null");
    }

    private static void orderStays() {
        House h = four("ROWS that are ALIKE stay as they stood");
        h.due("MATCH (a) RETURN a ORDER BY 1", "N0|N1|N2|N3");
        h.due("MATCH (a) RETURN a ORDER BY 1 DESC", "N0|N1|N2|N3");
        h.due("MATCH (a) RETURN a ORDER BY a.g", "N0|N2|N1|N3");
        h.due("MATCH (a) RETURN a ORDER BY a.g DESC", "N3|N1|N0|N2");
        h.due("MATCH (a) WITH a ORDER BY a DESC RETURN a ORDER BY a.g", "N2|N0|N1|N3");
        House k = new House("ALIKE in three");
        k.due("CREATE ({k:1}),({k:2}),({k:1}),({k:0})", "done");
        k.due("MATCH (a) RETURN a ORDER BY a.k,a.k,a.k", "N3|N0|N2|N1");
        k.due("MATCH (a) RETURN a ORDER BY a.k DESC,a.k DESC,a.k DESC", "N1|N0|N2|N3");
        k.due("MATCH (a) RETURN a ORDER BY a.k,a.k", "N3|N0|N2|N1");
        k.due("MATCH (a) RETURN a ORDER BY a.k", "N3|N0|N2|N1");
    }

    private static void orderTurnedRound() {
        House h = four("DESC");
        h.due("MATCH (a) RETURN a.n AS n ORDER BY n", "0|1|2|3");
        h.due("MATCH (a) RETURN a.n AS n ORDER BY n DESC", "3|2|1|0");
        h.due("MATCH (a) RETURN a.n AS n ORDER BY -n", "3|2|1|0");
        h.due("null, too", h.ask("MATCH (a) RETURN DISTINCT a.g AS g ORDER BY g DESC"), "null|'y'|'x'");
    }

    private static void orderByTwoAndThree() {
        House h = new House("the first X, then the next");
        h.due("CREATE ({a:1,b:1,c:2}),({a:1,b:1,c:1}),({a:1,b:0,c:3}),({a:0,b:9,c:9}),({a:1,b:1,c:2})", "done");
        h.due("MATCH (x) RETURN x ORDER BY x.a", "N3|N0|N1|N2|N4");
        h.due("MATCH (x) RETURN x ORDER BY x.a,x.b", "N3|N2|N0|N1|N4");
        h.due("MATCH (x) RETURN x ORDER BY x.a,x.b,x.c", "N3|N2|N1|N0|N4");
        h.due("MATCH (x) RETURN x ORDER BY x.a DESC,x.b DESC,x.c DESC", "N0|N4|N1|N2|N3");
        h.due("MATCH (x) RETURN x ORDER BY x.a DESC,x.b,x.c DESC", "N2|N0|N4|N1|N3");
    }

    private static void orderErrors() {
        House h = four("ERRORS of ORDER BY");
        h.due("of one ROW, too", h.ask("RETURN 1 ORDER BY 1/0"), "error 4 in 0");
        h.due("ROW by ROW, from left to right", h.ask("MATCH (a) RETURN a ORDER BY 1/(a.n-1),a.n+'a'"), "error 2 in 1");
        h.due("MATCH (a) RETURN a ORDER BY 1/a.n,a.n+'a'", "error 4 in 1");
        h.due("ahead of LIMIT", h.ask("MATCH (a) RETURN a ORDER BY 1/(a.n-3) LIMIT 0"), "error 4 in 1");
        h.due("behind all ITEMS", h.ask("MATCH (a) RETURN a.n/(3-a.n) AS q,a ORDER BY a+1"), "error 4 in 1");
    }

    private static void skip() {
        House h = four("SKIP");
        h.due("MATCH (a) RETURN a SKIP 0", "N0|N1|N2|N3");
        h.due("MATCH (a) RETURN a SKIP 3", "N3");
        h.due("MATCH (a) RETURN a SKIP 4", "done");
        h.due("MATCH (a) RETURN a SKIP 5", "done");
        h.due("MATCH (a) RETURN a SKIP 4294967296", "done");
        h.due("MATCH (a) RETURN a SKIP 999999999999999999", "done");
    }

    private static void limit() {
        House h = four("LIMIT");
        h.due("MATCH (a) RETURN a LIMIT 0", "done");
        h.due("columns", h.table(0) + " " + h.table(1), "0 1");
        h.due("MATCH (a) RETURN a LIMIT 1", "N0");
        h.due("MATCH (a) RETURN a LIMIT 3", "N0|N1|N2");
        h.due("MATCH (a) RETURN a LIMIT 4", "N0|N1|N2|N3");
        h.due("MATCH (a) RETURN a LIMIT 5", "N0|N1|N2|N3");
        h.due("MATCH (a) RETURN a LIMIT 4294967296", "N0|N1|N2|N3");
        h.due("MATCH (a) RETURN a LIMIT 999999999999999999", "N0|N1|N2|N3");
    }

    private static void skipAndLimit() {
        House h = four("SKIP, then LIMIT");
        h.due("MATCH (a) RETURN a SKIP 1 LIMIT 2", "N1|N2");
        h.due("MATCH (a) RETURN a SKIP 3 LIMIT 3", "N3");
        h.due("MATCH (a) RETURN a SKIP 4 LIMIT 4", "done");
        h.due("MATCH (a) RETURN a SKIP 2 LIMIT 999999999999999999", "N2|N3");
        h.due("MATCH (a) RETURN a SKIP 999999999999999999 LIMIT 999999999999999999", "done");
        h.due("MATCH (a) WITH a ORDER BY a DESC SKIP 1 LIMIT 2 RETURN a", "N2|N1");
    }

    private static void whereBehindAll() {
        House h = four("WHERE of WITH");
        h.due("behind LIMIT", h.ask("MATCH (a) WITH a LIMIT 2 WHERE a.n>0 RETURN a"), "N1");
        h.due("behind SKIP", h.ask("MATCH (a) WITH a SKIP 2 WHERE a.n<3 RETURN a"), "N2");
        h.due("behind AGGREGATES", h.ask("MATCH (a) WITH a.g AS g,COUNT(*) AS c WHERE c=2 RETURN g"), "'x'");
        h.due("behind ORDER BY", h.ask("MATCH (a) WITH a ORDER BY a.n DESC WHERE a.n<>2 RETURN a"), "N3|N1|N0");
        h.due("not TRUE", h.ask("MATCH (a) WITH a WHERE a.g='x' RETURN a"), "N0|N2");
        h.due("an ERROR behind that of ORDER BY", h.ask("MATCH (a) WITH a ORDER BY a+1 WHERE 1/0=1 RETURN a"), "error 2 in 1");
    }

    private static void counts() {
        House h = new House("200 ROWS");
        h.due(House.nodes(20), "done");
        String rows = "MATCH (a) WITH a LIMIT 10 MATCH (b) ";
        h.due(rows + "RETURN COUNT(*),COUNT(a),COUNT(DISTINCT a),COUNT(DISTINCT b)", "200,200,10,20");
        h.due(rows + "RETURN a,b ORDER BY b DESC,a DESC SKIP 199", "N0,N0");
        h.due(rows + "RETURN DISTINCT a SKIP 9", "N9");
        h.due(rows + "WITH a,b,COUNT(*) AS n RETURN COUNT(*),SUM(n)", "200,200");
    }
}
