/** Promise 3: WITH and RETURN. */
public final class GatherTest {
    public static void main(String[] args) {
        items();
        aggregates();
        groups();
        aggregateErrors();
        distinct();
        order();
        skipAndLimit();
        with();
        House.end();
    }

    /** k: 0 1 2 0 1 2 0, t: 'a' and 'b' in turn; NODE 6 has no t. */
    private static House graph(String name) {
        House h = new House(name);
        h.due("CREATE (:A{k:0,t:'a'}),(:A{k:1,t:'b'}),(:A{k:2,t:'a'}),(:A{k:0,t:'b'}),(:A{k:1,t:'a'}),(:A{k:2,t:'b'}),(:A{k:0})",
            "done");
        return h;
    }

    private static void items() {
        House h = graph("ITEMS");
        h.due("RETURN 1,'a',TRUE,NULL", "1,'a',true,null");
        h.due("MATCH (a) RETURN a.k", "0|1|2|0|1|2|0");
        h.due("MATCH (a:B) RETURN a.k", "done");
        h.due("columns of no ROWS", h.table(1), 1);
        h.due("MATCH (a) RETURN 1/(2-a.k),a.k+a.t", "error 2 in 1");
        h.due("MATCH (a) RETURN 1/(2-a.k)", "error 4 in 1");
    }

    private static void aggregates() {
        House h = graph("AGGREGATES");
        h.due("MATCH (a) RETURN COUNT(*),COUNT(a),COUNT(a.t),COUNT(DISTINCT a.t),COUNT(DISTINCT a.k)", "7,7,6,2,3");
        h.due("MATCH (a) RETURN SUM(a.k),SUM(DISTINCT a.k),SUM(a.z)", "6,3,0");
        h.due("MATCH (a) RETURN MIN(a.k),MAX(a.k),MIN(a.t),MAX(a.t),MIN(a),MAX(a)", "0,2,'a','b',N0,N6");
        h.due("MATCH (a) RETURN MIN(a.z),MAX(a.z),MIN(DISTINCT a.k),MAX(DISTINCT a.t)", "null,null,0,'b'");
        h.due("MATCH (a:B) RETURN COUNT(*),COUNT(a),SUM(a.k),MIN(a),MAX(a.k)", "0,0,0,null,null");
        h.due("MATCH (a:B) RETURN a,COUNT(*)", "done");
        h.due("RETURN COUNT(NULL),SUM(NULL),COUNT(1),SUM(1),MIN('x'),COUNT(*)", "0,0,1,1,'x',1");
        h.due("MATCH (a) RETURN MIN(COALESCE(a.t,a.k)),MAX(COALESCE(a.t,a.k)),MIN(COALESCE(a.t,a))", "'a',0,N6");
    }

    private static void groups() {
        House h = graph("groups");
        h.due("MATCH (a) RETURN a.k,COUNT(*)", "0,3|1,2|2,2");
        h.due("MATCH (a) RETURN COUNT(*),a.t,SUM(a.k)", "3,'a',3|3,'b',3|1,null,0");
        h.due("MATCH (a) RETURN a.k,MIN(a),a.t,MAX(ID(a))",
            "0,N0,'a',0|1,N1,'b',1|2,N2,'a',2|0,N3,'b',3|1,N4,'a',4|2,N5,'b',5|0,N6,null,6");
        h.due("MATCH (a) RETURN a.k,COUNT(DISTINCT a.t) AS n ORDER BY n DESC", "0,2|1,2|2,2");
        h.due("MATCH (a) RETURN a.z,COUNT(*)", "null,7");
        h.due("MATCH (a) RETURN DISTINCT COUNT(*) AS n,a.k>=0", "7,true");
        h.due("MATCH (a) WITH a.k AS k,COUNT(*) AS n WHERE n>2 RETURN k,n", "0,3");
        h.due("MATCH (a) RETURN a.k=1,SUM(a.k)", "false,4|true,2");
    }

    private static void aggregateErrors() {
        House h = graph("ERRORS of AGGREGATES");
        h.due("MATCH (a) RETURN SUM(a.t)", "error 2 in 1");
        h.due("MATCH (a) RETURN SUM(a)", "error 2 in 1");
        h.due("MATCH (a) RETURN SUM(a.t),1/a.k", "error 4 in 1");
        h.due("MATCH (a) RETURN SUM(a.t),1/(a.k-1)", "error 2 in 1");
        h.due("MATCH (a) WHERE ID(a)<2 RETURN SUM(999999999999999999*9+ID(a))", "error 3 in 1");
        h.due("MATCH (a) WHERE ID(a)<2 RETURN SUM(DISTINCT 999999999999999999*9)", "8999999999999999991");
        h.due("MATCH (a) WHERE ID(a)<3 RETURN SUM(999999999999999999*9*(1-ID(a)))", "0");
        h.due("MATCH (a) WHERE ID(a)<3 RETURN SUM(999999999999999999*9*(1-a.k%2*2))", "8999999999999999991");
        h.due("MATCH (a) WHERE a.k<>1 RETURN SUM(999999999999999999*5*(1-a.k%2*2))", "error 3 in 1");
    }

    private static void distinct() {
        House h = graph("DISTINCT");
        h.due("MATCH (a) RETURN DISTINCT a.k", "0|1|2");
        h.due("MATCH (a) RETURN DISTINCT a.k,a.t", "0,'a'|1,'b'|2,'a'|0,'b'|1,'a'|2,'b'|0,null");
        h.due("MATCH (a) RETURN DISTINCT a.z", "null");
        h.due("MATCH (a) RETURN DISTINCT a.t", "'a'|'b'|null");
        h.due("MATCH (a:Z) RETURN DISTINCT a", "done");
        h.due("MATCH (a) RETURN DISTINCT a.k<1", "true|false");
        h.due("MATCH (a) WITH DISTINCT a.t AS t RETURN COUNT(*)", "3");
        h.due("MATCH (a) RETURN DISTINCT a.k AS k ORDER BY k DESC LIMIT 2", "2|1");
    }

    private static void order() {
        House h = graph("ORDER BY");
        h.due("MATCH (a) RETURN a,a.k AS k ORDER BY k", "N0,0|N3,0|N6,0|N1,1|N4,1|N2,2|N5,2");
        h.due("MATCH (a) RETURN a,a.k AS k ORDER BY k DESC", "N2,2|N5,2|N1,1|N4,1|N0,0|N3,0|N6,0");
        h.due("MATCH (a) RETURN a ORDER BY a.k DESC,a DESC", "N5|N2|N4|N1|N6|N3|N0");
        h.due("MATCH (a) RETURN a ORDER BY a.t,a.k DESC,ID(a)", "N2|N4|N0|N5|N1|N3|N6");
        h.due("MATCH (a) RETURN a ORDER BY a.t DESC,1,a.k", "N6|N3|N1|N5|N0|N4|N2");
        h.due("MATCH (a) RETURN a ORDER BY a.z", "N0|N1|N2|N3|N4|N5|N6");
        h.due("MATCH (a) RETURN a ORDER BY 1/(a.k-2)", "error 4 in 1");
        h.due("RETURN 1 AS a ORDER BY 1/0", "error 4 in 0");
        h.due("MATCH (a) RETURN a.k AS a ORDER BY a DESC LIMIT 1", "2");
        h.due("MATCH (a) RETURN a ORDER BY a.k=1 DESC,a.k<1,-ID(a)", "N4|N1|N5|N2|N6|N3|N0");
    }

    private static void skipAndLimit() {
        House h = graph("SKIP and LIMIT");
        h.due("MATCH (a) RETURN a SKIP 5", "N5|N6");
        h.due("MATCH (a) RETURN a LIMIT 2", "N0|N1");
        h.due("MATCH (a) RETURN a SKIP 2 LIMIT 2", "N2|N3");
        h.due("MATCH (a) RETURN a SKIP 7", "done");
        h.due("MATCH (a) RETURN a SKIP 0 LIMIT 0", "done");
        h.due("MATCH (a) RETURN a SKIP 999999999999999999 LIMIT 999999999999999999", "done");
        h.due("MATCH (a) RETURN a SKIP 6 LIMIT 999999999999999999", "N6");
        h.due("MATCH (a) RETURN COUNT(*) LIMIT 1", "7");
    }

    private static void with() {
        House h = graph("WITH");
        h.due("MATCH (a) WITH a.k AS k,a WHERE k=1 RETURN a,k", "N1,1|N4,1");
        h.due("MATCH (a) WITH a LIMIT 3 WHERE a.k>0 RETURN a", "N1|N2");
        h.due("MATCH (a) WITH a WHERE 5 RETURN a", "done");
        h.due("MATCH (a) WITH a WHERE a.t+1 RETURN a", "error 2 in 1");
        h.due("WITH 1 AS a,2 AS b WITH b AS a,a AS b RETURN a,b", "2,1");
        h.due("MATCH (a) WITH COUNT(*) AS n WITH n*2 AS m RETURN m+1", "15");
        h.due("MATCH (a) WITH MAX(a.k) AS m MATCH (b{k:m}) RETURN b,m", "N2,2|N5,2");
        h.due("MATCH (a) WITH a ORDER BY a.k DESC SKIP 1 LIMIT 3 RETURN a", "N5|N1|N4");
    }
}
