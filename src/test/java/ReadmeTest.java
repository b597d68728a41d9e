/** The calls that README.md tells of. */
public final class ReadmeTest {
    public static void main(String[] args) {
        House h = new House("readme");
        String text = "CREATE (a:City{name:'Ulm'}) RETURN a.name AS name";
        for (int i = 0; i < text.length(); i++) {
            h.due("type", h.type(text.charAt(i), 1), true);
        }
        h.due("run()", h.run(""), 1);
        h.due("kind(0, 0)", h.kind(0, 0), 3);
        h.due("value(0, 0)", h.value(0, 0), "3");
        h.due("letter(0, 0, 0)", h.letter(0, 0, 0), (int) 'U');
        h.due("head(0)", h.head(0), "name");
        h.due("begin()", h.begin(), true);
        h.due("MATCH (a:City) SET a.seen=TRUE", "done");
        h.due("cut(2)", h.cut(2), true);
        h.due("commit()", h.commit(), House.OFF);
        h.due("recover()", h.recover(), 1);
        h.due("MATCH (a) RETURN a.name,a.seen", "'Ulm',null");
        House.end();
    }
}
