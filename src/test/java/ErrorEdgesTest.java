/** The edges of ERRORS 1, 9 and 10, which ERROR is the first one, and what is left of a statement that has one. */
public final class ErrorEdgesTest {
    /** The WORK of two statements in a house of 20 NODES. */
    private static final int HEAVY = 20 + 20 + 200 + 4 * 200 + 200;
    private static final int LIGHT = 20 + 20 + 200 + 200;

    public static void main(String[] args) {
        waysOfMatch();
        waysAheadOfWhere();
        rowsOfOptional();
        changesOfTransaction();
        changesOfStatement();
        roomForStatement();
        roomOfLog();
        workOfClauses();
        lastOfWork();
        workOneByOne();
        workAheadOfAll();
        workOfEachClause();
        twoAtOnce();
        twoAtTheLastChange();
        firstOne();
        clauseNumbers();
        wholeOrNotAtAll();
        wholeOrNotAtAllInTransaction();
        lastThingsAsTheyWere();
        House.end();
    }

    /** So many NODES that a MATCH of all pairs with one k has 14 * 14 + 2 * 2 + ones ways. */
    private static House pairs(String name, int ones) {
        House h = new House(name);
        h.due("CREATE " + "({k:0}),".repeat(14) + "({k:1}),({k:1})", "done");
        for (int i = 0; i < ones; i++) {
            h.due("CREATE ({k:" + (i + 2) + "})", "done");
        }
        return h;
    }

    private static void waysOfMatch() {
        House h = pairs("200 ways", 0);
        h.due("MATCH (a) MATCH (b{k:a.k}) RETURN COUNT(*)", "200");
        h.due("WORK", h.state(6), 1 + 16 + 200 + 200);
        h.due("CREATE ({k:2})", "done");
        h.due("the 201st", h.ask("MATCH (a) MATCH (b{k:a.k}) RETURN COUNT(*)"), "error 1 in 1");
        h.due("which is no WORK", h.state(6), 417 + 1 + 17 + 200);
        h.due("MATCH (a) WHERE a.k<2 MATCH (b{k:a.k}) RETURN a,b SKIP 199", "N15,N15");
        h.due("of one old ROW", h.ask("MATCH (a),(b) RETURN 1"), "error 1 in 0");
        h.due("of OPTIONAL", h.ask("MATCH (a) OPTIONAL MATCH (b{k:a.k}) RETURN 1"), "error 1 in 1");
    }

    private static void waysAheadOfWhere() {
        House h = pairs("ahead of WHERE", 0);
        h.due("MATCH (a) MATCH (b{k:a.k}) WHERE FALSE RETURN 1", "done");
        h.due("CREATE ({k:2})", "done");
        h.due("MATCH (a) MATCH (b{k:a.k}) WHERE FALSE RETURN 1", "error 1 in 1");
        h.due("MATCH (a) MATCH (b{k:a.k}) WHERE 1/0=1 RETURN 1", "error 1 in 1");
        h.due("MATCH (a) OPTIONAL MATCH (b{k:a.k}) WHERE FALSE RETURN 1", "error 1 in 1");
    }

    private static void rowsOfOptional() {
        House h = pairs("OPTIONAL", 0);
        String rows = "MATCH (a) MATCH (b{k:a.k}) OPTIONAL MATCH (c{m:ID(a)+ID(b)}) ";
        h.due("200 that have null", h.ask(rows + "RETURN COUNT(*),COUNT(c)"), "200,0");
        h.due("MATCH (x) WHERE ID(x)=3 SET x.m=0", "done");
        h.due("199 that have null and one", h.ask(rows + "RETURN COUNT(*),COUNT(c)"), "200,1");
        h.due("MATCH (x) WHERE ID(x)=4 SET x.m=0", "done");
        h.due("199 that have null and two", h.ask(rows + "RETURN COUNT(*),COUNT(c)"), "error 1 in 2");
        h.due("behind WHERE", h.ask(rows + "WHERE ID(c)=3 RETURN COUNT(*),COUNT(c)"), "200,1");
        h.due("null ones are no WORK", h.state(6), 1 + 2 * (16 + 200 + 200) + 1 + 2 * 17 + 216 + 2 + 216 + 2 + 200);
    }

    private static void changesOfTransaction() {
        House h = new House("the 250th CHANGE of a TRANSACTION");
        h.due(House.nodes(62), "done");
        h.due("checkpoint", h.checkpoint(), 63);
        h.begin();
        h.due("MATCH (a) SET a.k=1,a.j=1,a.l=1,a.m=1", "done");
        h.due("CREATE (a) RETURN a", "N62");
        h.due("249", h.state("057"), "63 1 249");
        String[] oneMore = {"CREATE ()", "MATCH (a) WHERE ID(a)=0 SET a.k=2", "MATCH (a) WHERE ID(a)=0 SET a:A",
            "MATCH (a) WHERE ID(a)=0 REMOVE a.k", "MATCH (a) WHERE ID(a)=0 SET a.k=NULL", "MATCH (a) WHERE ID(a)=0 DELETE a",
            "MATCH (a) WHERE ID(a)=0 CREATE (a)-[:T]->(a)", "MATCH (a) WHERE ID(a)=0 DETACH DELETE a"};
        for (String statement : oneMore) {
            h.due(statement, statement.equals("CREATE ()") ? "error 9 in 0" : "error 9 in 1");
            h.due("CHANGES", h.state("057"), "63 1 249");
        }
        h.due("those that change nothing", h.ask("MATCH (a) WHERE ID(a)=0 SET a.k=1,a.z=NULL REMOVE a:Z,a.y RETURN a.k"), "1");
        h.due("commit", h.commit(), 250);
        h.due("LOG", h.state(3), 250);
    }

    private static void changesOfStatement() {
        House h = new House("the 250th CHANGE of a statement");
        h.due(House.nodes(50), "done");
        h.due("checkpoint", h.checkpoint(), 51);
        h.due("250", h.ask("MATCH (a) SET a.k=1,a.j=1,a.l=1,a.m=1,a:A"), "error 9 in 1");
        h.due("nothing is changed", h.state("0123"), "50 0 102 0");
        h.due("node(0)", h.node(0), "0 0 0 0");
        h.due("249", h.ask("MATCH (a) WHERE ID(a)<49 SET a.k=1,a.j=1,a.l=1,a.m=1,a:A CREATE (a)-[:T]->(a)"), "error 9 in 2");
        h.due("MATCH (a) WHERE ID(a)<49 SET a.k=1,a.j=1,a.l=1,a.m=1,a:A WITH COUNT(*) AS n CREATE (),(),(),()", "done");
        h.due("LOG", h.state("0123"), "54 0 352 250");
    }

    private static void roomForStatement() {
        House h = new House("the LOG has room for 250");
        h.due(House.nodes(60), "done");
        h.due("MATCH (a) SET a.k=1,a.j=1,a:A", "done");
        h.due("LOG", h.state(3), 61 + 181);
        String all = h.state("01235");
        h.due("one too many", h.ask("MATCH (a) WHERE ID(a)<8 SET a.k=2"), "error 9 in 2");
        h.due("as many as it has CLAUSES", h.ask("MATCH (a) WHERE ID(a)<8 WITH a SET a.k=2 RETURN a.k"), "error 9 in 4");
        h.due("nothing is changed", h.state("01235"), all);
        h.due("MATCH (a) WHERE ID(a)=0 RETURN a.k", "1");
        h.due("just so many", h.ask("MATCH (a) WHERE ID(a)<7 SET a.k=2"), "done");
        h.due("LOG", h.state(3), 250);
        h.due("one CHANGE", h.ask("CREATE ()"), "error 9 in 1");
        h.due("no CHANGE", h.ask("MATCH (a) WHERE ID(a)=0 SET a.k=2 RETURN a.k"), "2");
        h.due("CHANGES that undo one another", h.ask("CREATE (a) DELETE a"), "error 9 in 2");
        h.due("within a TRANSACTION", h.begin(), true);
        h.due("CREATE ()", "done");
        h.due("commit", h.commit(), -2);
        h.due("rollback", h.rollback(), true);
        h.due("checkpoint", h.checkpoint(), 61);
        h.due("CREATE ()", "done");
        h.due("LOG", h.state(3), 2);
    }

    private static void roomOfLog() {
        House h = new House("room for a commit");
        h.due(House.nodes(60), "done");
        h.due("MATCH (a) SET a.k=1,a.j=1,a:A", "done");
        h.begin();
        h.due(House.nodes(4), "done");
        h.due("MATCH (a) WHERE ID(a)<4 SET a.k=2", "done");
        String all = h.state("01234567");
        h.due("nine of eight", h.commit(), -2);
        h.due("nothing is changed", h.state("01234567"), all);
        h.due("it is under way still", h.begin(), false);
        h.due("rollback", h.rollback(), true);
        h.begin();
        h.due(House.nodes(4), "done");
        h.due("MATCH (a) WHERE ID(a)<3 SET a.k=2", "done");
        h.due("eight of eight", h.commit(), 8);
        h.due("state", h.state("0357"), "64 250 0 0");
        h.begin();
        h.due("none of none", h.commit(), 0);
    }

    private static void workOfClauses() {
        House h = new House("WORK of CLAUSES");
        int work = 0;
        String[] statements = {House.nodes(5), "RETURN 1", "MATCH (a) RETURN 1", "MATCH (a) WHERE ID(a)<2 RETURN 1",
            "MATCH (a) WITH a LIMIT 2 RETURN 1", "MATCH (a) WITH a WHERE ID(a)=0 RETURN 1", "MATCH (a) SET a.k=1",
            "MATCH (a) WHERE ID(a)=0 REMOVE a.k", "MATCH (a) WHERE ID(a)=4 DELETE a", "MATCH (z:Z) RETURN z",
            "OPTIONAL MATCH (z:Z) RETURN z", "MATCH (a) RETURN COUNT(*)", "MATCH (a) RETURN a ORDER BY a LIMIT 1",
            "RETURN 1/0", "MATCH (a) RETURN 1/ID(a)", "RETURN 1 1", "WITH 1 AS a WITH a DELETE a"};
        int[] due = {1, 1, 10, 5 + 2, 5 + 5 + 2, 5 + 5 + 1, 10, 5 + 1, 5 + 1, 0, 0 + 1, 8, 8, 1, 4 + 1, 0, 3};
        for (int i = 0; i < statements.length; i++) {
            h.ask(statements[i]);
            work += due[i];
            h.due("WORK behind " + statements[i], h.state(6), work);
        }
    }

    /** A house of 20 NODES whose statements came to so much WORK. */
    private static House worked(String name, int work) {
        House h = new House(name);
        h.due(House.nodes(20), "done");
        int done = 1;
        for (; work - done >= HEAVY; done += HEAVY) {
            h.due("MATCH (a) WITH a LIMIT 10 MATCH (b) WITH 1 AS c WITH c WITH c WITH c RETURN COUNT(*)", "200");
        }
        for (; work - done >= LIGHT; done += LIGHT) {
            h.due("MATCH (a) WITH a LIMIT 10 MATCH (b) RETURN COUNT(*)", "200");
        }
        for (; work - done >= 40; done += 40) {
            h.due("MATCH (a) RETURN COUNT(*)", "20");
        }
        while (done < work) {
            int clauses = Math.min(work - done, 8);
            h.due((clauses == 1 ? "RETURN 1" : "WITH 1 AS a " + "WITH a ".repeat(clauses - 2) + "RETURN a"), "1");
            done += clauses;
        }
        h.due("WORK", h.state(6), work);
        return h;
    }

    private static void lastOfWork() {
        House h = worked("20000 WORK", 19999);
        h.due("RETURN 1", "1");
        h.due("WORK", h.state(6), 20000);
        h.due("RETURN 1", "error 10 in 0");
        h.due("WORK", h.state(6), 20000);
        h.due("MATCH (a) RETURN 1", "error 10 in 0");
        h.due("CREATE ()", "error 10 in 0");
        h.due("what goes over no ROWS", h.ask("MATCH (z:Z) RETURN z"), "done");
        h.due("MATCH (z:Z) RETURN COUNT(*)", "0");
        h.due("a ROW that has null is no way", h.ask("OPTIONAL MATCH (z:Z) MATCH (z) RETURN z"), "done");
        h.due("OPTIONAL MATCH (z:Z) RETURN z", "error 10 in 1");
        h.due("FAULTS", h.ask("RETURN 1 1"), "fault 2 at 9");
        h.due("state", h.state("0156"), "20 0 0 20000");
        h.recover();
        h.due("of all statements", h.ask("RETURN 1"), "error 10 in 0");
    }

    private static void workOneByOne() {
        House h = worked("WORK of a MATCH", 19990);
        h.due("MATCH (a) RETURN a", "error 10 in 0");
        h.due("WORK", h.state(6), 20000);
        House two = worked("WORK of a RETURN", 19970);
        two.due("MATCH (a) RETURN a", "error 10 in 1");
        two.due("WORK", two.state(6), 20000);
        House all = worked("WORK of both", 19960);
        all.due("MATCH (a) RETURN COUNT(*)", "20");
        all.due("WORK", all.state(6), 20000);
        House one = worked("WORK of both but one", 19961);
        one.due("MATCH (a) RETURN COUNT(*)", "error 10 in 1");
        one.due("WORK", one.state(6), 20000);
    }

    private static void workAheadOfAll() {
        House h = worked("WORK ahead of all", 19998);
        h.due("RETURN 1/0", "error 4 in 0");
        h.due("WITH 1/0 AS a RETURN a", "error 4 in 0");
        h.due("WORK", h.state(6), 20000);
        h.due("RETURN 1/0", "error 10 in 0");
        h.due("CREATE ({k:1/0})", "error 10 in 0");
        h.due("MATCH (a) WHERE 1/0=1 RETURN a", "error 10 in 0");
        h.due("but X of PROPERTIES are ahead of ways", h.ask("MATCH (a{k:1/0}) RETURN a"), "error 4 in 0");
    }

    private static void workOfEachClause() {
        String[] clauses = {"SET a.k=1", "REMOVE a.k", "DELETE a", "DETACH DELETE a", "CREATE (a)-[:T]->(a)", "WITH a RETURN 1",
            "RETURN a", "MATCH (a) RETURN a"};
        for (String clause : clauses) {
            House h = worked("WORK of " + clause, 19999);
            h.due("CREATE (a) " + clause, "error 10 in 1");
            h.due("nothing is changed", h.state("0126"), "20 0 21 20000");
        }
    }

    private static void twoAtOnce() {
        House h = worked("the 201st way and too much WORK", 19800);
        h.due("MATCH (a),(b) RETURN 1", "error 1 in 0");
        h.due("WORK", h.state(6), 20000);
        House less = worked("the 200th way and too much WORK", 19801);
        less.due("MATCH (a),(b) RETURN 1", "error 10 in 0");
        less.due("WORK", less.state(6), 20000);
    }

    private static void twoAtTheLastChange() {
        House h = new House("too many and the 250th CHANGE");
        h.due(House.nodes(64), "done");
        h.due("MATCH (a) WHERE ID(a)=0 SET a:A,a:B,a:C,a:D,a.a=1,a.b=2,a.c=3,a.d=4,a.e=5,a.f=6 CREATE (a)-[:T]->(a)", "done");
        h.due("checkpoint", h.checkpoint(), 66);
        h.begin();
        h.due("MATCH (a) WHERE ID(a)>1 SET a.k=1,a.j=1,a.l=1,a.m=1", "done");
        h.due("MATCH (a) WHERE ID(a)=1 SET a.k=1", "done");
        h.due("CHANGES", h.state(7), 249);
        h.due("CREATE ()", "error 6 in 0");
        h.due("MATCH (a) WHERE ID(a)=0 SET a:E", "error 6 in 1");
        h.due("MATCH (a) WHERE ID(a)=0 SET a.g=7", "error 6 in 1");
        h.due("MATCH (a) WHERE ID(a)=0 SET a.a=a", "error 2 in 1");
        h.due("MATCH (a) WHERE ID(a)=0 DELETE a", "error 7 in 1");
        h.due("MATCH (a) WHERE ID(a)=0 SET a.a=2", "error 9 in 1");
        h.due("MATCH (a) WHERE ID(a)=0 DETACH DELETE a", "error 9 in 1");
        h.due("MATCH (a) WHERE ID(a)=63 DELETE a", "error 9 in 1");
    }

    private static void firstOne() {
        House.dueAlone("RETURN 1/0,'a'+1", "error 4 in 0");
        House.dueAlone("RETURN 'a'+1,1/0", "error 2 in 0");
        House.dueAlone("RETURN 1/0 ORDER BY 'a'+1", "error 4 in 0");
        House.dueAlone("CREATE (a) DELETE a SET a.k=1/0", "error 8 in 2");
        House.dueAlone("CREATE (a)-[r:T]->(b) DELETE a SET r:A", "error 7 in 1");
        House.dueAlone("CREATE (:A:B:C:D:E),({k:1/0})", "error 6 in 0");
        House.dueAlone("RETURN 'abcdefghijklmnopqrstuvwx'+'y'+1", "error 5 in 0");
        House.dueAlone("RETURN 999999999999999999*99/0", "error 3 in 0");
    }

    private static void clauseNumbers() {
        House h = new House("the number of the CLAUSE");
        h.due("RETURN 1/0", "error 4 in 0");
        h.due("WITH 1 AS a RETURN a/0", "error 4 in 1");
        h.due("WITH 1 AS a WITH a WITH a WITH a WITH a WITH a WITH a RETURN a/0", "error 4 in 7");
        h.due("WITH 1 AS a WITH a/0 AS a RETURN a", "error 4 in 1");
        h.due("WITH 1 AS a MATCH (b{k:a/0}) RETURN b", "error 4 in 1");
        h.due("WITH 1 AS a WITH a WHERE a/0=1 RETURN a", "error 4 in 1");
        h.due("fault()", h.faults(), "0 0 4 1");
    }

    /** Statements with each ERROR but 9 and 10, all of which change much ahead of it. */
    private static String[][] erring() {
        String change = "MATCH (a:A)-[r]->(b) SET a.k=2,a.z=3,a:C,r.w=NULL REMOVE a:A,a.j CREATE (b)-[:S]->(c:D) DELETE r ";
        return new String[][] {{change + "MATCH (),(),(),() MATCH () RETURN 1", "1 in 6"},
            {change + "RETURN 1+TRUE", "2 in 5"}, {change + "RETURN 999999999999999999*10", "3 in 5"},
            {change + "RETURN 1%0", "4 in 5"}, {change + "RETURN '1234567890123'+'123456789012'", "5 in 5"},
            {change + "SET b:E,b:F,b:G,b:H", "6 in 5"}, {change + "DELETE b", "7 in 5"}, {change + "RETURN r.w", "8 in 5"}};
    }

    private static String graph(House h) {
        return h.state("01237") + " " + h.node(0) + " " + h.node(1) + " " + h.node(2) + " " + h.relationship(0) + " "
            + h.relationship(1);
    }

    private static void wholeOrNotAtAll() {
        for (String[] row : erring()) {
            House h = new House(row[0]);
            h.due("CREATE (a:A:B{k:1,j:'x'})-[r:T{w:1}]->(b:B)", "done");
            String ahead = graph(h);
            String answer = h.ask(row[0]);
            h.due("answer", answer, "error " + row[1]);
            h.due("the graph", graph(h), ahead);
            h.due("MATCH (a:A:B)-[r:T]->(b:B) RETURN a.k,a.j,a.z,a:C,r.w,DEGREE(b)", "1,'x',null,false,1,1");
            h.due("recover", h.recover(), 1);
            h.due("the graph again", graph(h), ahead);
        }
    }

    private static void wholeOrNotAtAllInTransaction() {
        for (String[] row : erring()) {
            House h = new House(row[0]);
            h.begin();
            h.due("CREATE (a:A:B{k:1,j:'x'})-[r:T{w:1}]->(b:B)", "done");
            String ahead = graph(h);
            h.due("answer", h.ask(row[0]), "error " + row[1]);
            h.due("the TRANSACTION goes on", h.state(5), 1);
            h.due("the graph and CHANGES", graph(h), ahead);
            h.due("CHANGES", h.state(7), 9);
            h.due("MATCH (a:A:B)-[r:T]->(b:B) RETURN a.k,a.j,a.z,a:C,r.w,DEGREE(b)", "1,'x',null,false,1,1");
            h.due("commit", h.commit(), 10);
        }
    }

    /** NODE 63 and RELATIONSHIP 95 come back, too, with all they have. */
    private static void lastThingsAsTheyWere() {
        House h = new House("the last things");
        h.due(House.nodes(64), "done");
        h.due("MATCH (a) WHERE ID(a)>=32 CREATE (a)-[:T]->(a)-[:T]->(a)-[:T]->(a)", "done");
        String last = "MATCH (a)-[r]->(b) WHERE ID(r)=95 ";
        h.due(last + "SET a:A,a:B,a:C,a:D,a.a=1,a.b=2,a.c=3,a.d=4,a.e=5,a.f='abcdefghijklmnopqrstuvwx'", "done");
        h.due(last + "SET r.a=1,r.b=2,r.c=3,r.d=4,r.e=5,r.f='abcdefghijklmnopqrstuvwx'", "done");
        String change = last + "SET a.a=9,a.f='x',r.a=9,r.f='x' REMOVE a:A,a:D,a.b,r.b ";
        String gone = last + "DETACH DELETE a WITH 1 AS n CREATE (x:X)-[s:S]->(y:Y) ";
        h.due(change + "RETURN 1/0", "error 4 in 3");
        asItWas(h);
        h.begin();
        h.due(change, "done");
        h.rollback();
        asItWas(h);
        h.begin();
        h.due(last + "DETACH DELETE a", "done");
        h.due("MATCH (b) WHERE ID(b)=5 CREATE (x:X)-[:S]->(b)-[:S]->(x)-[s:S]->(b) RETURN x,s", "N63,R95");
        h.due("relationship(95)", h.relationship(95), "63 5 0");
        h.due("recover", h.recover(), 4);
        asItWas(h);
        h.begin();
        h.due(last + "DELETE r", "done");
        h.due("MATCH (b) WHERE ID(b)=5 CREATE (b)-[s:S]->(b) RETURN s", "R95");
        h.due("relationship(95)", h.relationship(95), "5 5 0");
        h.rollback();
        asItWas(h);
        h.due("checkpoint", h.checkpoint(), 161);
        h.cut(5);
        h.due(change, "off");
        h.due("recover", h.recover(), 0);
        asItWas(h);
        h.due(gone, "error 6 in 3");
        asItWas(h);
    }

    private static void asItWas(House h) {
        h.due("node and relationship", h.node(63) + " " + h.relationship(95), "4 6 3 3 63 63 6");
        String text = "'abcdefghijklmnopqrstuvwx'";
        h.due("MATCH (a)-[r]->(b) WHERE ID(r)=95 RETURN a.a,a.f=" + text + ",a:A AND a:D,r.b,r.f=" + text + ",r:T", "1,true,true,2,true,true");
    }
}
