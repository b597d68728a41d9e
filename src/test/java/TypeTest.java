/** Promise 2: what goes to the tape, and what is refused without changing it. */
public final class TypeTest {
    public static void main(String[] args) {
        orderOfBytes();
        wrongInputs();
        fullTape();
        tokenAtTheEnd();
        asManyAsThereCanBe();
        House.end();
    }

    private static void orderOfBytes() {
        House h = new House("order of bytes");
        h.due("type", h.type(0x52455455524E2031L, 8), true);
        h.due("type", h.type('0', 1), true);
        h.due("RETURN 10", h.ask(""), "10");
        h.due("type, with more above the n lowest bytes", h.type(0x00FF7F5245545552L, 5), true);
        h.due("type", h.type(0x4E2037L, 3), true);
        h.due("RETURN 7", h.ask(""), "7");
        h.due("type without the highest byte", h.type(0x5252455455524E20L, 7), true);
        h.due("type", h.type(-0xC8L, 1), true);
        h.due("RETURN 8", h.ask(""), "8");
    }

    private static void wrongInputs() {
        House h = new House("wrong inputs");
        h.type("RETURN ");
        for (int n : new int[] {0, -1, 9, 100, Integer.MIN_VALUE, Integer.MAX_VALUE}) {
            h.due("type n " + n, h.type(0x3131313131313131L, n), false);
        }
        h.due("byte 31", h.type(0x311FL, 2), false);
        h.due("byte 127", h.type(0x7F31L, 2), false);
        h.due("byte 128", h.type(0x80L, 1), false);
        h.due("byte 255", h.type(-1L, 8), false);
        h.due("byte 0", h.type(0x31L, 2), false);
        h.due("byte 32", h.type(32, 1), true);
        h.due("byte 126", h.type(126, 1), true);
        h.due("only these two came to the tape", h.ask(""), "fault 1 at 8");
    }

    private static void fullTape() {
        House h = new House("full tape");
        h.type("RETURN 1" + " ".repeat(385));
        h.due("seven more come to 400", h.type(0x20202020202020L, 7), true);
        h.due("one more", h.type(' ', 1), false);
        h.due("all of it", h.ask(""), "1");
        h.type(" ".repeat(396));
        h.due("five more", h.type(0x2020202020L, 5), false);
        h.due("four more", h.type(0x20202020L, 4), true);
        h.due("it ends too early", h.ask(""), "fault 2 at 400");
        h.due("the tape is empty then", h.ask(""), "fault 2 at 0");
    }

    private static void tokenAtTheEnd() {
        String[] ends = {"'", "'abc", "a", "A", "AB", "7", "<", ".", "1234567890123456789", "abcdefghi", "$"};
        String[] faults = {"1", "1", "2", "2", "2", "2", "2", "2", "1", "1", "1"};
        for (int i = 0; i < ends.length; i++) {
            int place = 400 - ends[i].length();
            new House("at the end of a full tape").due("RETURN 1" + " ".repeat(place - 8) + ends[i],
                "fault " + faults[i] + " at " + (ends[i].equals("<") ? 400 : place));
        }
    }

    private static void asManyAsThereCanBe() {
        House h = new House("as many as there can be");
        h.due("CREATE " + "()--".repeat(97) + "()", "fault 5 at 9");
        h.due("CREATE (" + ":A".repeat(195) + ")", "done");
        h.due("CREATE (a) DELETE a" + ",a".repeat(190), "done");
        h.due("CREATE " + "(),".repeat(130) + "()", "error 6 in 0");
        h.due("(".repeat(400), "fault 2 at 0");
        h.due("RETURN " + "1+".repeat(196) + "1", "197");
        h.due("RETURN 1" + "+1".repeat(195) + "+ ", "fault 2 at 400");
        h.due("RETURN 1" + "+1".repeat(196), "197");
        House more = new House("again and again");
        for (int i = 1; i < 7; i++) {
            more.due("RETURN " + (i + "+").repeat(190) + i, "" + 191 * i);
        }
        House pieces = new House("as many LABELS and KEYS as there can be");
        pieces.due("CREATE (:A{k:1}),(:A{k:2})", "done");
        pieces.due("MATCH (a" + ":A".repeat(180) + "{k:2}) RETURN a", "N1");
        pieces.due("MATCH (a{" + "k:1,".repeat(90) + "k:1}) RETURN a", "N0");
        pieces.due("MATCH (a{" + "k:1,".repeat(90) + "k:2}) RETURN a", "done");
        pieces.due("MATCH (a)-[:" + "T|".repeat(180) + "T]-(b) RETURN a", "done");
        pieces.due("MATCH (a) SET a.k=1" + ",a.k=2".repeat(60) + ",a.k=3 RETURN a.k", "3|3");
    }
}
