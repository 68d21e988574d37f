import java.util.List;

/** Calls of the face by their names: the answer is a Long, or a Double of point and total. */
final class Calls {
    static final List<String> NAMES = List.of("make", "lay", "places", "kind", "tag", "load", "put", "putBoxed",
        "putThing", "number", "point", "what", "take", "copy", "gather", "scatter", "merge", "sort", "turn", "sum",
        "total", "find", "alike", "why");
    /** The reasons that each of them can be refused for, each once, in the order in which they are told first. */
    private static final String[] REASONS = {"1", "1", "123", "1", "15", "15", "12345", "12345", "12345", "12345",
        "12345", "1234", "12364", "12345", "123645", "123645", "123645", "123", "123", "1236", "1236", "1236", "123",
        ""};

    private Calls() {
    }

    static String reasons(String name) {
        return REASONS[NAMES.indexOf(name)];
    }

    static Object answer(ColumnHouse house, String name, int... p) {
        switch (name) {
            case "make": return (long) house.make(p[0], p[1], p[2]);
            case "lay": return (long) house.lay(p[0], p[1]);
            case "places": return (long) house.places(p[0]);
            case "kind": return (long) house.kind(p[0]);
            case "tag": return (long) house.tag(p[0]);
            case "load": return (long) house.load(p[0]);
            case "put": return (long) house.put(p[0], p[1], p[2], p[3], p[4]);
            case "putBoxed": return (long) house.putBoxed(p[0], p[1], p[2], p[3], p[4]);
            case "putThing": return (long) house.putThing(p[0], p[1], p[2]);
            case "number": return house.number(p[0], p[1], p[2]);
            case "point": return house.point(p[0], p[1], p[2]);
            case "what": return (long) house.what(p[0], p[1]);
            case "take": return (long) house.take(p[0], p[1], p[2]);
            case "copy": return (long) house.copy(p[0], p[1]);
            case "gather": return (long) house.gather(p[0], p[1], p[2]);
            case "scatter": return (long) house.scatter(p[0], p[1], p[2]);
            case "merge": return (long) house.merge(p[0], p[1], p[2]);
            case "sort": return (long) house.sort(p[0]);
            case "turn": return (long) house.turn(p[0], p[1]);
            case "sum": return house.sum(p[0]);
            case "total": return house.total(p[0]);
            case "find": return (long) house.find(p[0], p[1], p[2], p[3], p[4]);
            case "alike": return (long) house.alike(p[0], p[1]);
            case "why": return (long) house.why();
            default: throw new IllegalArgumentException(name);
        }
    }
}
