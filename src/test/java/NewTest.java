/** Promise 1: a new object is an empty graph. */
public final class NewTest {
    public static void main(String[] args) {
        House h = new House("new");
        h.due("NONE", GraphHouse.NONE, -1);
        h.due("state", h.state("01234567"), "0 0 0 0 0 0 0 0");
        h.due("state(8)", h.house.state(8), -1);
        h.due("state(-1)", h.house.state(-1), -1);
        for (int what = 0; what < 4; what++) {
            h.due("fault(" + what + ")", h.house.fault(what), 0);
            h.due("node(0, " + what + ")", h.house.node(0, what), -1);
            h.due("relationship(0, " + what + ")", h.house.relationship(0, what), -1);
        }
        h.due("table(0)", h.house.table(0), 0);
        h.due("table(1)", h.house.table(1), 0);
        h.due("kind(0, 0)", h.house.kind(0, 0), -1);
        h.due("letter(0, 0, 0)", h.house.letter(0, 0, 0), -1);
        h.due("head(0, 0)", h.house.head(0, 0), -1);
        h.due("commit()", h.commit(), -1);
        h.due("rollback()", h.house.rollback(), false);
        h.due("recover()", h.house.recover(), 0);
        h.due("MATCH (a) RETURN a", "done");
        h.due("MATCH ()-[r]-() RETURN r", "done");
        House.end();
    }
}
