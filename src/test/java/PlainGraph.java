import java.util.ArrayList;
import java.util.HashMap;
import java.util.HashSet;
import java.util.List;
import java.util.Map;
import java.util.Set;

/**
 * THE GRAPH as the document tells it, and what an X can ask of it. A VALUE is null, a Long, a Boolean, a String or a
 * Thing, so that equals() tells whether two are ALIKE.
 */
final class PlainGraph {
    /** A NODE (kind N) or RELATIONSHIP (kind R). */
    record Thing(char kind, int number) {
        @Override
        public String toString() {
            return "" + kind + number;
        }
    }

    /** What a thing has; a RELATIONSHIP's TYPE is its only SORT. */
    static final class Content {
        Thing start;
        Thing end;
        final Set<String> sorts = new HashSet<>();
        final Map<String, Object> properties = new HashMap<>();
    }

    private final Map<Thing, Content> things = new HashMap<>();
    /** What this statement took away. */
    final Set<Thing> gone = new HashSet<>();

    PlainGraph copy() {
        PlainGraph copy = new PlainGraph();
        for (Map.Entry<Thing, Content> entry : things.entrySet()) {
            Content content = copy.make(entry.getKey());
            content.start = entry.getValue().start;
            content.end = entry.getValue().end;
            content.sorts.addAll(entry.getValue().sorts);
            content.properties.putAll(entry.getValue().properties);
        }
        return copy;
    }

    Content make(Thing thing) {
        Content content = new Content();
        things.put(thing, content);
        return content;
    }

    void remove(Thing thing) {
        things.remove(thing);
    }

    boolean has(Thing thing) {
        return things.containsKey(thing);
    }

    Content of(Thing thing) {
        return things.get(thing);
    }

    static int limit(char kind) {
        return kind == 'N' ? 64 : 96;
    }

    /** All NODES or RELATIONSHIPS, by number. */
    List<Thing> all(char kind) {
        List<Thing> found = new ArrayList<>();
        for (int number = 0; number < limit(kind); number++) {
            if (has(new Thing(kind, number))) {
                found.add(new Thing(kind, number));
            }
        }
        return found;
    }

    List<Thing> joined(Thing node) {
        List<Thing> found = all('R');
        found.removeIf(r -> !of(r).start.equals(node) && !of(r).end.equals(node));
        return found;
    }

    void refuseGone(Object value) {
        if (value instanceof Thing && gone.contains(value)) {
            throw Refused.error(8);
        }
    }

    /** What there is to ask of a thing; null of null. */
    private Content ask(Object value, String kinds) {
        if (value == null) {
            return null;
        }
        if (!(value instanceof Thing thing) || kinds.indexOf(thing.kind()) < 0) {
            throw Refused.error(2);
        }
        refuseGone(value);
        return of(thing);
    }

    Object property(Object value, String key) {
        Content content = ask(value, "NR");
        return content == null ? null : content.properties.get(key);
    }

    Object hasSort(Object value, String sort) {
        Content content = ask(value, "NR");
        return content == null ? null : content.sorts.contains(sort);
    }

    Object function(String name, Object value) {
        if (value == null) {
            return null;
        }
        switch (name) {
            case "ID":
                if (value instanceof Thing thing) {
                    return (long) thing.number();
                }
                throw Refused.error(2);
            case "SIZE":
                if (value instanceof String text) {
                    return (long) text.length();
                }
                throw Refused.error(2);
            case "TYPE":
                return ask(value, "R").sorts.iterator().next();
            default:
                ask(value, "N");
                return (long) joined((Thing) value).size();
        }
    }
}
