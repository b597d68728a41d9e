/** Promise 1: a new object is an empty graph. */
public final class NewTest {
    public static void main(String[] args) {
        House h = new House("new");
        h.due("NONE", GraphHouse.NONE, -1);
        h.due("state", h.state("01234567"), "0 0 0 0 0 0 0 0");
        h.due("state(8)", h.state(8), -1);
        h.due("state(-1)", h.state(-1), -1);
        for (int what = 0; what < 4; what++) {
            h.due("fault(" + what + ")", h.fault(what), 0);
            h.due("node(0, " + what + ")", h.node(0, what), -1);
            h.due("relationship(0, " + what + ")", h.relationship(0, what), -1);
        }
        h.due("table(0)", h.table(0), 0);
        h.due("table(1)", h.table(1), 0);
        h.due("kind(0, 0)", h.kind(0, 0), -1);
        h.due("letter(0, 0, 0)", h.letter(0, 0, 0), -1);
        h.due("head(0, 0)", h.head(0, 0), -1);
        h.due("commit()", h.commit(), -1);
        h.due("rollback()", h.rollback(), false);
        h.due("recover()", h.recover(), 0);
        h.due("MATCH (a) RETURN a", "done");
        h.due("MATCH ()-[r]-() RETURN r", "done");
        House.end();
    }
}
