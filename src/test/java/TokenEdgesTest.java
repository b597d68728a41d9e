/** The edges of THE TAPE's TOKENS: how long each one may be, where it ends, and what is none (FAULT 1). */
public final class TokenEdgesTest {
    public static void main(String[] args) {
        blanks();
        names();
        sorts();
        words();
        numbers();
        texts();
        signs();
        longestOnes();
        noTokens();
        noTokenAheadOfAllElse();
        House.end();
    }

    private static void blanks() {
        House.dueAlone("RETURN 1", "1");
        House.dueAlone("   RETURN   1   ", "1");
        House.dueAlone("RETURN1", "1");
        House.dueAlone("RETURN'a'", "'a'");
        House.dueAlone("RETURN 1AS a", "1");
        House.dueAlone("WITH 1AS a RETURN a", "1");
        House.dueAlone("MATCH(a)-[:T*1..2]->(b)RETURN 1", "done");
        House.dueAlone("MATCH ( a ) - [ : T * 1 .. 2 ] - > ( b ) RETURN a . k , a : A", "done");
        House.dueAlone("RETURN ' a  b '", "' a  b '");
        House.dueFault(2, "^RE TURN 1");
        House.dueFault(2, "RETURN 1 ^2");
        House.dueFault(2, "RETURN 1 AS a ^b");
        House.dueFault(2, "MATCH (a ^b) RETURN 1");
        House.dueFault(2, "RETURN 1 < ^= 2");
        House.dueFault(2, "RETURN 1 < ^> 2");
        House.dueFault(2, "RETURN 1 > ^= 2");
        House.dueFault(2, "MATCH (a)-[*1 ^. . 2]-(b) RETURN 1");
    }

    private static void names() {
        House h = new House("NAMES");
        h.due("RETURN 1 AS a", "1");
        h.due("head", h.head(0), "a");
        h.due("RETURN 1 AS abcdefgh", "1");
        h.due("head", h.head(0), "abcdefgh");
        h.due("RETURN 1 AS z1234567", "1");
        h.due("head", h.head(0), "z1234567");
        House.dueFault(1, "RETURN 1 AS ^abcdefghi");
        House.dueFault(1, "RETURN 1 AS ^z12345678");
        House.dueFault(1, "RETURN ^abcdefghijklmnopqrstuvwxyz");
        House.dueFault(1, "CREATE (^abcdefghi)");
        House.dueFault(1, "CREATE ({^abcdefghi:1})");
        House.dueAlone("CREATE (abcdefgh{abcdefgh:1}) RETURN abcdefgh.abcdefgh", "1");
        House.dueAlone("CREATE (a{abcdefgh:1,abcdefgi:2,abcdefg:3}) RETURN a.abcdefgh,a.abcdefgi,a.abcdefg", "1,2,3");
        House.dueFault(2, "RETURN 1 AS ^1a");
        House.dueFault(2, "RETURN 1 AS a^B");
        House.dueFault(2, "RETURN 1 AS ^A");
    }

    private static void sorts() {
        House.dueAlone("CREATE (a:A) RETURN a:A", "true");
        House.dueAlone("CREATE (a:Z9) RETURN a:Z9", "true");
        House.dueAlone("CREATE (a:Abcdefgh) RETURN a:Abcdefgh,a:Abcdefgi,a:Abcdefg", "true,false,false");
        House.dueAlone("CREATE (a:A1234567) RETURN a:A1234567", "true");
        House.dueFault(1, "CREATE (:^Abcdefghi)");
        House.dueFault(1, "CREATE (:^A12345678)");
        House.dueFault(1, "CREATE (a)-[:^Abcdefghi]->(b)");
        House.dueFault(2, "CREATE (:^a)");
        House.dueFault(2, "CREATE (:^AB)");
        House.dueFault(2, "CREATE (:^ABc)");
        House.dueFault(2, "CREATE (:Ab^Cd)");
        House.dueFault(2, "CREATE (:^1)");
    }

    private static void words() {
        House.dueAlone("RETURN ID(NULL)", "null");
        House.dueFault(2, "^R 1");
        House.dueFault(2, "^RETURNS 1");
        House.dueFault(2, "^RETUR 1");
        House.dueFault(2, "^Return 1");
        House.dueFault(2, "^return 1");
        House.dueFault(2, "^ABCDEFGHIJKLMNOPQRSTUVWXYZ");
        House.dueFault(2, "RETURN ^ABCDEFGHI");
        House.dueFault(2, "RETURN ^TRUEFALSE");
        House.dueFault(2, "RETURN 1 ^ASC");
        House.dueFault(4, "RETURN TRUE AND^x");
        House.dueFault(2, "^AB");
    }

    private static void numbers() {
        House.dueAlone("RETURN 0,9,00", "0,9,0");
        House.dueAlone("RETURN 999999999999999999", "999999999999999999");
        House.dueAlone("RETURN 000000000000000001", "1");
        House.dueFault(1, "RETURN ^1000000000000000000");
        House.dueFault(1, "RETURN ^0000000000000000001");
        House.dueFault(1, "RETURN ^99999999999999999999999999999999999999");
        House.dueFault(1, "RETURN 1 LIMIT ^1234567890123456789");
        House.dueFault(1, "MATCH (a)-[*^1234567890123456789]-(b) RETURN 1");
        House.dueFault(2, "RETURN 1^.5");
        House.dueFault(2, "RETURN 1^a");
        House.dueFault(2, "RETURN 1^A");
    }

    private static void texts() {
        House.dueAlone("RETURN ''", "''");
        House.dueFault(1, "RETURN ''^'");
        House.dueFault(2, "RETURN ''^''");
        House.dueAlone("RETURN 'abcdefghijklmnopqrstuvwx'", "'abcdefghijklmnopqrstuvwx'");
        House.dueFault(1, "RETURN ^'abcdefghijklmnopqrstuvwxy'");
        House.dueFault(1, "RETURN ^'");
        House.dueFault(1, "RETURN ^'a");
        House.dueFault(1, "RETURN ^'abcdefghijklmnopqrstuvwxyz");
        House.dueFault(1, "RETURN 'a',^'b");
        House.dueFault(1, "CREATE ({k:^'}) RETURN 1");
        House.dueAlone("RETURN '$;AB(',1", "'$;AB(',1");
    }

    /** Each sign is a TOKEN, if one that can't stand at the beginning. */
    private static void signs() {
        String[] all = {"(", ")", "[", "]", "{", "}", ":", ",", ".", "..", "*", "+", "-", "/", "%", "=", "<>", "<", "<=", ">", ">=",
            "|"};
        for (String sign : all) {
            House.dueFault(2, "^" + sign);
            House.dueFault(2, "^" + sign + " RETURN 1");
        }
        House.dueAlone("RETURN 1+2,1-2,2*3,6/3,7%4", "3,-1,6,2,3");
        House.dueAlone("RETURN 1=2,1<>2,1<2,1<=2,1>2,1>=2", "false,true,true,true,false,false");
    }

    private static void longestOnes() {
        House.dueAlone("RETURN 1<=1,1>=1,1<>1", "true,true,false");
        House.dueAlone("RETURN 1<-1,1>-1", "false,true");
        House.dueAlone("RETURN 1<>-1", "true");
        House.dueFault(2, "RETURN 1=^>1");
        House.dueFault(2, "RETURN 1=^<1");
        House.dueFault(2, "RETURN 1=^=1");
        House.dueFault(2, "RETURN 1<^<1");
        House.dueFault(2, "RETURN 1<=^>1");
        House.dueFault(2, "RETURN 1<>^=1");
        House.dueFault(2, "MATCH (a)-[*1..^.2]-(b) RETURN 1");
        House.dueFault(2, "MATCH (a)-[*1^.2]-(b) RETURN 1");
        House.dueFault(2, "MATCH (a)^<>(b) RETURN 1");
        House.dueFault(2, "MATCH (a)^<=(b) RETURN 1");
        House.dueFault(2, "MATCH (a)-[r]-^>=(b) RETURN 1");
        House.dueFault(2, "MATCH (a) RETURN a^..k");
        House.dueAlone("MATCH (a)-[*1..2]-(b) RETURN 1", "done");
        House.dueAlone("CREATE (a)<-[r:T]-(b) RETURN r", "R0");
    }

    private static void noTokens() {
        String none = "!\"#$&;?@\\_`~";
        for (int i = 0; i < none.length(); i++) {
            House.dueFault(1, "^" + none.charAt(i));
            House.dueFault(1, "RETURN ^" + none.charAt(i));
            House.dueFault(1, "RETURN 1^" + none.charAt(i) + "2");
            House.dueAlone("RETURN '" + none.charAt(i) + "'", "'" + none.charAt(i) + "'");
        }
        House.dueAlone("^", "fault 1 at 0");
        House.dueAlone("RETURN 1 ^ 2", "fault 1 at 9");
    }

    /** What is no TOKEN is found only when all TOKENS ahead of it could stand where they do. */
    private static void noTokenAheadOfAllElse() {
        House.dueFault(2, "RETURN 1 ^2 $");
        House.dueFault(1, "RETURN 1 ^$ 2");
        House.dueFault(1, "RETURN x ^$");
        House.dueFault(1, "RETURN 1,2,3,4,5,6,^$");
        House.dueFault(1, "CREATE () ".repeat(8) + "^$");
        House.dueFault(1, "RETURN ((((((((((^$");
        House.dueFault(1, "MATCH (a) ^$");
        House.dueFault(1, "RETURN 1 ^$");
    }
}
