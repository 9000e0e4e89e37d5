import java.math.BigInteger;
import java.util.ArrayList;
import java.util.Arrays;
import java.util.List;

/** An object, the rows that are done on it, and how many calls these made. */
final class Player {
    private final TwoScribes object = new TwoScribes();
    int calls;

    /** An object on which these were done. */
    static Player after(List<Script.Row> rows) {
        Player player = new Player();
        player.all(rows);
        return player;
    }

    List<String> all(List<Script.Row> rows) {
        List<String> answers = new ArrayList<>();
        for (Script.Row row : rows) {
            answers.add(answer(row));
        }
        return answers;
    }

    String answer(Script.Row row) {
        try {
            return tell(row.name, row.args);
        } catch (RuntimeException e) {
            return "throws." + e.getClass().getSimpleName();
        }
    }

    private String tell(String name, int[] a) {
        switch (name) {
            case "copy":
                return "[" + signs("letter", about(a[0], 0), a[0]) + "]";
            case "authors":
                return "[" + list("author", "", about(a[0], 0), a[0]) + "]";
            case "thePage":
                return "[" + signs("page", (int) one("count", 2)) + "]";
            case "toward":
                return "[" + strokes(a[0]) + "]";
            case "goesAll":
                return "[" + list("goes", " ", about(a[0], 0), a[0]) + "]";
            case "abouts":
                return "[" + list("about", " ", 7, a[0]) + "]";
            case "counts":
                return "[" + list("count", " ", 7) + "]";
            case "digested":
                return digested();
            case "mean":
                calls++;
                return Double.toString(object.mean());
            default:
                return Long.toString(one(name, a));
        }
    }

    private long one(String name, int... a) {
        calls++;
        switch (name) {
            case "setRule":
                return object.setRule(a[0]);
            case "set":
                return object.set(a[0], a[1], a[2], a[3]);
            case "strike":
                return object.strike(a[0], a[1]);
            case "undo":
                return object.undo(a[0]);
            case "come":
                return object.come(a[0]);
            case "meet":
                return object.meet();
            case "would":
                return object.would(a[0], a[1], a[2], a[3]);
            default:
                return ask(name, a);
        }
    }

    private long ask(String name, int[] a) {
        switch (name) {
            case "letter":
                return object.letter(a[0], a[1]);
            case "author":
                return object.author(a[0], a[1]);
            case "about":
                return object.about(a[0], a[1]);
            case "way":
                return object.way(a[0], a[1], a[2]);
            case "count":
                return object.count(a[0]);
            case "first":
                return object.first();
            case "page":
                return object.page(a[0]);
            case "goes":
                return object.goes(a[0], a[1]);
            case "lost":
                return object.lost(a[0]);
            case "undoes":
                return object.undoes(a[0]);
            case "digest":
                return object.digest();
            default:
                throw new AssertionError("no such call: " + name);
        }
    }

    int about(int scribe, int what) {
        return (int) one("about", scribe, what);
    }

    private static int[] with(int[] head, int last) {
        int[] all = Arrays.copyOf(head, head.length + 1);
        all[head.length] = last;
        return all;
    }

    private String list(String name, String between, int size, int... head) {
        List<String> answers = new ArrayList<>();
        for (int last = 0; last < size; last++) {
            answers.add(Long.toString(one(name, with(head, last))));
        }
        return String.join(between, answers);
    }

    private String signs(String name, int size, int... head) {
        StringBuilder text = new StringBuilder();
        for (int last = 0; last < size; last++) {
            text.append((char) ('a' + one(name, with(head, last))));
        }
        return text.toString();
    }

    private String strokes(int scribe) {
        List<String> answers = new ArrayList<>();
        int size = about(scribe, 3);
        for (int number = 0; number < size; number++) {
            answers.add(list("way", ",", 4, scribe, number));
        }
        return String.join(" ", answers);
    }

    /** Whether the checksum is that of the other answers, summed up without any wrap-around. */
    private String digested() {
        List<Long> told = new ArrayList<>();
        add(told, "count", 7);
        for (int scribe = 0; scribe <= 1; scribe++) {
            add(told, "about", 7, scribe);
            int letters = about(scribe, 0);
            for (int place = 0; place < letters; place++) {
                told.add(one("letter", scribe, place));
                told.add(one("author", scribe, place));
            }
            int strokes = about(scribe, 3);
            for (int number = 0; number < strokes; number++) {
                add(told, "way", 4, scribe, number);
            }
            told.add(one("undoes", scribe));
        }
        add(told, "page", told.get(2).intValue());
        BigInteger d = BigInteger.valueOf(1549);
        for (long x : told) {
            d = d.multiply(BigInteger.valueOf(31)).add(BigInteger.valueOf(x));
        }
        long got = one("digest");
        return got == d.longValue() ? "fine" : got + " of " + told;
    }

    private void add(List<Long> told, String name, int size, int... head) {
        for (int last = 0; last < size; last++) {
            told.add(one(name, with(head, last)));
        }
    }
}
