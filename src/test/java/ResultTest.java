/** Promises 5 to 9: what was returned. */
public final class ResultTest {
    public static void main(String[] args) {
        kindsAndValues();
        outside();
        letters();
        heads();
        noMore();
        House.end();
    }

    private static void kindsAndValues() {
        House h = new House("kinds");
        h.due("CREATE ()", "done");
        h.due("CREATE (a)-[r:T]->(b) RETURN a,r,b,-7,'abc',NULL", "N1,R0,N2,-7,'abc',null");
        int[] kinds = {4, 5, 4, 1, 3, 0};
        String[] values = {"1", "0", "2", "-7", "3", "0"};
        for (int column = 0; column < 6; column++) {
            h.due("kind(0, " + column + ")", h.kind(0, column), kinds[column]);
            h.due("value(0, " + column + ")", h.value(0, column), values[column]);
        }
        h.due("RETURN TRUE,FALSE,''", "true,false,''");
        h.due("kind", h.kind(0, 0) + " " + h.kind(0, 1) + " " + h.kind(0, 2), "2 2 3");
        h.due("value", h.value(0, 0) + " " + h.value(0, 1) + " " + h.value(0, 2), "1 0 0");
        h.due("table", h.table(0) + " " + h.table(1), "1 3");
        h.due("table(2)", h.table(2), -1);
        h.due("table(-1)", h.table(-1), -1);
    }

    private static void outside() {
        House h = new House("outside");
        h.due("CREATE (:A),(:A) WITH 1 AS x MATCH (a:A) RETURN a,x", "N0,1|N1,1");
        int[][] wrong = {{-1, 0}, {2, 0}, {0, -1}, {0, 2}, {2, 2}, {Integer.MIN_VALUE, 0}, {Integer.MAX_VALUE, 0},
            {0, Integer.MIN_VALUE}, {0, Integer.MAX_VALUE}, {200, 0}, {0, 8}, {1 << 29, 0}};
        for (int[] cell : wrong) {
            h.due("kind", h.kind(cell[0], cell[1]), -1);
            h.due("value", h.value(cell[0], cell[1]), "none");
            h.due("letter", h.letter(cell[0], cell[1], 0), -1);
        }
    }

    private static void letters() {
        House h = new House("letters");
        h.due("RETURN 'abcdefgh'+'ijklmnop'+'qrstuvwx',1,NULL,TRUE,''", "'abcdefghijklmnopqrstuvwx',1,null,true,''");
        h.due("letter 0", h.letter(0, 0, 0), (int) 'a');
        h.due("letter 8", h.letter(0, 0, 8), (int) 'i');
        h.due("letter 23", h.letter(0, 0, 23), (int) 'x');
        int[] wrong = {-1, 24, 25, 32, Integer.MIN_VALUE, Integer.MAX_VALUE};
        for (int i : wrong) {
            h.due("letter " + i, h.letter(0, 0, i), -1);
        }
        for (int column = 1; column < 5; column++) {
            h.due("no letter in column " + column, h.letter(0, column, 0), -1);
        }
    }

    private static void heads() {
        House h = new House("heads");
        h.due("CREATE (a)-[rel12345:T]->(b) RETURN a,rel12345,b AS c,a.k,COUNT(*) AS count8ch,(a)", "N0,R0,N1,null,1,N0");
        String[] heads = {"a", "rel12345", "c", "", "count8ch", "", "", ""};
        for (int column = 0; column < 8; column++) {
            h.due("head " + column, h.head(column), heads[column]);
        }
        int[] wrong = {-1, 8, 9, 64, Integer.MIN_VALUE, Integer.MAX_VALUE};
        for (int i : wrong) {
            h.due("head(1, " + i + ")", h.head(1, i), -1);
        }
        h.due("head(-1, 0)", h.head(-1, 0), -1);
        h.due("head(1, 7)", h.head(1, 7), (int) '5');
        h.due("head(0, 1)", h.head(0, 1), -1);
        for (int i = 0; i < 8; i++) {
            h.due("head(3, " + i + ")", h.head(3, i), -1);
        }
        h.due("MATCH (a:Z) RETURN a AS none", "done");
        h.due("a head above no ROWS", h.head(0), "none");
    }

    private static void noMore() {
        String[] next = {"CREATE (b)", "RETURN 1/0", "RETURN 1 1", "", "MATCH (a) RETURN a.k,SUM('a')"};
        for (String statement : next) {
            House h = new House("after " + statement);
            h.due("CREATE (a) RETURN a,'x' AS x", "N0,'x'");
            h.ask(statement);
            h.due("table", h.table(0) + " " + h.table(1), "0 0");
            h.due("kind", h.kind(0, 0), -1);
            h.due("value", h.value(0, 0), "none");
            h.due("letter", h.letter(0, 1, 0), -1);
            h.due("head", h.head(0, 0), -1);
        }
        House h = new House("what is not run leaves it");
        h.due("CREATE (a) RETURN a", "N0");
        h.type("RETURN 1");
        h.begin();
        h.due("commit", h.commit(), 0);
        h.due("checkpoint", h.checkpoint(), 2);
        h.cut(1);
        h.due("checkpoint", h.checkpoint(), House.OFF);
        h.due("value", h.value(0, 0), "0");
        h.recover();
        h.due("value", h.value(0, 0), "0");
        h.due("the tape, too", h.ask(""), "1");
    }
}
