import java.util.ArrayList;
import java.util.List;

/** What shows whether two objects are the same: all that can be asked, and some ways to go on. */
final class Probes {
    private static final String UNDO_AND_COME = """
            6 * undo(0)
            undoes(0)
            6 * undo(1)
            undoes(1)
            digest()
            come(0)
            come(1)
            digest()
            """;
    private static final String WRITE_AND_MEET = """
            set(0, 0, 3, 1)
            set(1, 0, 2, 1)
            strike(0, 1)
            strike(1, 1)
            digest()
            meet()
            setRule({2, 1, 0})
            digest()
            5 * undo(0)
            5 * undo(1)
            digest()
            meet()
            digest()
            """;

    private Probes() {
    }

    /** In parts, so that no object is used for too many calls. */
    static List<List<Script.Row>> after(List<Script.Row> done) {
        int room = Script.MOST_CALLS - done.size() - 1;
        List<List<Script.Row>> parts = new ArrayList<>();
        if (room < 1) {
            return parts;
        }
        List<Script.Row> asking = asking(done);
        for (int from = 0; from < asking.size(); from += room) {
            parts.add(asking.subList(from, Math.min(asking.size(), from + room)));
        }
        for (String going : new String[] {UNDO_AND_COME, WRITE_AND_MEET}) {
            List<Script.Row> rows = Script.read(going.repeat(8));
            parts.add(rows.subList(0, Math.min(rows.size(), room)));
        }
        return parts;
    }

    private static List<Script.Row> asking(List<Script.Row> done) {
        Player player = Player.after(done);
        StringBuilder rows = new StringBuilder("count({0, 1, 2, 3, 4, 5, 6})\nfirst()\nmean()\n");
        for (int scribe = 0; scribe <= 1; scribe++) {
            String head = "(" + scribe + ", ";
            rows.append("about").append(head).append("{0, 1, 2, 3, 4, 5, 6})\n");
            rows.append("lost(").append(scribe).append(")\nundoes(").append(scribe).append(")\n");
            int letters = player.about(scribe, 0);
            for (int place = 0; place < letters; place++) {
                rows.append("letter").append(head).append(place).append(")\n");
                rows.append("author").append(head).append(place).append(")\n");
                rows.append("goes").append(head).append(place).append(")\n");
            }
            for (int place = 0; place <= letters; place++) {
                rows.append("would").append(head).append(place).append(", 12, {0, 1})\n");
            }
            int strokes = player.about(scribe, 3);
            for (int number = 0; number < strokes; number++) {
                rows.append("way").append(head).append(number).append(", {0, 1, 2, 3})\n");
            }
        }
        long page = Long.parseLong(player.answer(Script.read("count(2)").get(0)));
        for (int place = 0; place < page; place++) {
            rows.append("page(").append(place).append(")\n");
        }
        return Script.read(rows.append("digest()\n").toString());
    }
}
