/** All promises: a house beside a PlainHouse, the same calls made to both. */
public final class PlainTest {
    private static final int RUNS = 2000;
    private static final String FIRST = "CREATE (a:A{k:0,t:'a'})-[r:T{w:1}]->(b:B{k:1}),(b)-[:S]->(c:A:B{k:2,t:'b'}),(c)-[:T]->(a)";
    private static final int THINGS = 12;

    private final StatementMaker maker;
    private final House house;
    private final PlainHouse plain = new PlainHouse();

    private PlainTest(int run) {
        maker = new StatementMaker(run);
        house = new House("run " + run);
    }

    public static void main(String[] args) {
        int runs = args.length == 0 ? RUNS : Integer.parseInt(args[0]);
        for (int run = 0; run < runs; run++) {
            new PlainTest(run).compare();
        }
        House.end();
    }

    private void compare() {
        boolean going = ask(FIRST + maker.pick("", ",(a)-[:T]->(a)", ",(a)-[:S{w:2}]->(c)", ",(b)<-[:U1]-(c)"));
        for (int i = 0; i < 20 && going; i++) {
            going = maker.chance(25) ? call() : ask(maker.statement());
        }
    }

    /** Whether there are calls enough left in the house for what a call costs, and for looking round behind it. */
    private boolean affords(int cost) {
        return house.callsLeft() >= cost + 40 + THINGS * 7;
    }

    private boolean ask(String statement) {
        if (statement.length() > 400) {
            return true;
        }
        String want = plain.ask(statement);
        if (!affords(statement.length() / 8 + want.length() + 10)) {
            return false;
        }
        house.due(statement, want);
        lookRound(statement);
        return true;
    }

    private boolean call() {
        if (!affords(1)) {
            return false;
        }
        int n = Integer.parseInt(maker.pick("0", "1", "2", "3", "5", "8", "13", "20", "2000", "2001", "-1"));
        String name = maker.pick("begin", "begin", "commit", "commit", "rollback", "checkpoint", "cut", "recover", "recover");
        switch (name) {
            case "begin":
                house.due(name, house.begin(), plain.begin());
                break;
            case "commit":
                house.due(name, house.commit(), plain.commit());
                break;
            case "rollback":
                house.due(name, house.rollback(), plain.rollback());
                break;
            case "checkpoint":
                house.due(name, house.checkpoint(), plain.checkpoint());
                break;
            case "cut":
                house.due(name + " " + n, house.cut(n), plain.cut(n));
                break;
            default:
                house.due(name, house.recover(), plain.recover());
                break;
        }
        lookRound(name);
        return true;
    }

    private void lookRound(String behind) {
        for (int what = 0; what < 8; what++) {
            house.due(behind + " state(" + what + ")", house.state(what), plain.state(what));
        }
        for (int what = 0; what < 4; what++) {
            house.due(behind + " fault(" + what + ")", house.fault(what), plain.fault(what));
        }
        for (int what = 0; what < 2; what++) {
            house.due(behind + " table(" + what + ")", house.table(what), plain.table(what));
        }
        int column = maker.below(3);
        house.due(behind + " head(" + column + ")", house.head(column), plain.head(column));
        if (maker.chance(15)) {
            for (int i = 0; i < THINGS; i++) {
                house.due(behind + " node " + i, house.node(i), plain.node(i));
                house.due(behind + " relationship " + i, house.relationship(i), plain.relationship(i));
            }
        }
    }
}
