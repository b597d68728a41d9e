import java.util.ArrayList;
import java.util.List;

/** Promise 3: the ways of MATCH, beside all that come up when every NODE and RELATIONSHIP is tried in turn. */
public final class WayTest {
    private static final int NODES = 5;
    private static final int MOST_ROWS = 60;

    private final int[] starts;
    private final int[] ends;
    private final String[] types;
    private final List<String> found = new ArrayList<>();
    private final List<Integer> used = new ArrayList<>();
    private String[] labels;
    private String[] links;

    private WayTest(int[] starts, int[] ends, String[] types) {
        this.starts = starts;
        this.ends = ends;
        this.types = types;
    }

    public static void main(String[] args) {
        int[] seed = {12345};
        for (int graph = 0; graph < 60; graph++) {
            int count = 2 + next(seed, 7);
            WayTest test = new WayTest(new int[count], new int[count], new String[count]);
            for (int r = 0; r < count; r++) {
                test.starts[r] = next(seed, NODES);
                test.ends[r] = next(seed, NODES);
                test.types[r] = next(seed, 3) == 0 ? "S" : "T";
            }
            for (int pattern = 0; pattern < 12; pattern++) {
                test.compare(seed);
            }
        }
        House.end();
    }

    /** The same numbers in every run. */
    private static int next(int[] seed, int below) {
        seed[0] = (seed[0] * 1103 + 12345) & 0xFFFFF;
        return (seed[0] >> 5) % below;
    }

    /** Makes up a PATTERN, and asks for its ways. */
    private void compare(int[] seed) {
        String[] kinds = {"-->", "<--", "--", "-[:T]->", "<-[:S]-", "-[*1..2]-", "-[*2]->", "<-[:T*1..2]-", "-[*1..3]->", "-[:T|S*3]-"};
        int[] sizes = {1, 1, 1, 1, 1, 2, 2, 2, 3, 3};
        List<String> chosen = new ArrayList<>();
        int size = 1;
        for (int i = 0; i < 3; i++) {
            int k = next(seed, kinds.length);
            if (size + sizes[k] <= 4) {
                size += sizes[k];
                chosen.add(kinds[k]);
            }
        }
        links = chosen.toArray(new String[0]);
        labels = new String[links.length + 1];
        for (int i = 0; i < labels.length; i++) {
            labels[i] = next(seed, 3) == 0 ? ":L" + next(seed, 2) : "";
        }
        ask(next(seed, 4) == 0 && labels.length > 2);
    }

    /** NODES 0, 2, 4 have the LABEL L0, the others L1; round: the last ENDS is the first one. */
    private void ask(boolean round) {
        StringBuilder pattern = new StringBuilder();
        StringBuilder columns = new StringBuilder();
        for (int i = 0; i < labels.length; i++) {
            boolean again = round && i == labels.length - 1;
            pattern.append(i == 0 ? "" : links[i - 1]).append("(n").append(again ? 0 : i).append(labels[i]).append(")");
            columns.append(again ? "" : i == 0 ? "n0" : ",n" + i);
        }
        found.clear();
        used.clear();
        for (int node = 0; node < NODES; node++) {
            goOn(0, node, round ? node : -1, node + "");
        }
        House h = new House("ways");
        StringBuilder make = new StringBuilder("CREATE (a:L0),(b:L1),(c:L0),(d:L1),(e:L0)");
        for (int r = 0; r < starts.length; r++) {
            make.append(",(").append("abcde".charAt(starts[r])).append(")-[:").append(types[r]).append("]->(");
            make.append("abcde".charAt(ends[r])).append(")");
        }
        h.due(make.toString(), "done");
        if (found.size() > 200) {
            h.due("MATCH " + pattern + " RETURN COUNT(*)", "error 1 in 0");
        } else if (found.size() > MOST_ROWS) {
            h.due("MATCH " + pattern + " RETURN COUNT(*)", "" + found.size());
        } else {
            String due = found.isEmpty() ? "done" : String.join("|", found);
            h.due(make + " MATCH " + pattern, h.ask("MATCH " + pattern + " RETURN " + columns), due);
        }
    }

    private void goOn(int i, int node, int last, String row) {
        if (labels[i].equals(":L0") && node % 2 == 1 || labels[i].equals(":L1") && node % 2 == 0) {
            return;
        }
        if (i == labels.length - 1) {
            if (last == -1 || last == node) {
                String shown = last == -1 ? row : row.substring(0, row.lastIndexOf(','));
                found.add("N" + shown.replace(",", ",N"));
            }
            return;
        }
        String link = links[i];
        int star = link.indexOf('*');
        int least = star < 0 ? 1 : link.charAt(star + 1) - '0';
        int most = star < 0 ? 1 : link.charAt(link.indexOf(']') - 1) - '0';
        for (int length = least; length <= most; length++) {
            goAlong(i, node, length, last, row);
        }
    }

    private void goAlong(int i, int node, int length, int last, String row) {
        if (length == 0) {
            goOn(i + 1, node, last, row + "," + node);
            return;
        }
        String link = links[i];
        for (int r = 0; r < starts.length; r++) {
            boolean fits = !link.contains(":") || link.contains(":" + types[r]) || link.contains("|" + types[r]);
            boolean along = starts[r] == node && !link.startsWith("<");
            boolean against = ends[r] == node && !link.endsWith(">");
            if (!used.contains(r) && fits && (along || against)) {
                used.add(r);
                goAlong(i, along ? ends[r] : starts[r], length - 1, last, row);
                used.remove(Integer.valueOf(r));
            }
        }
    }
}
