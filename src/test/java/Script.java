import java.util.ArrayList;
import java.util.Arrays;
import java.util.List;
import java.util.Map;
import java.util.Set;
import java.util.regex.Matcher;
import java.util.regex.Pattern;

/**
 * Runs of calls on a new object, told as text, a row each:
 *
 * <pre>
 *   set(0, 2, 7, 1) = 3              it answers 3
 *   set(0, {-1, 41}, 7, 1) ! index   each of these throws, and changes nothing
 *   12 * strike(0, 0)                twelve times; whatever it answers, it does not throw
 *   copy(0) = [abc]                  what several calls tell at once
 * </pre>
 *
 * A row that throws and one that only asks is done on a further object too, and all that can be
 * asked and done then is compared with an object on which it was never done. No object is used for
 * more than the 512 calls of the document.
 */
final class Script {
    static final int MOST_CALLS = 512;

    private static final Set<String> DOING =
            Set.of("setRule", "set", "strike", "undo", "come", "meet");
    private static final Set<String> SEVERAL = Set.of("copy", "authors", "toward", "thePage",
            "counts", "abouts", "goesAll", "digested");
    private static final Map<String, String> THROWN = Map.of("index", Check.INDEX,
            "argument", Check.ARGUMENT, "state", Check.STATE);
    private static final Pattern FORM =
            Pattern.compile("(?:(\\d+) \\* )?(\\w+)\\(([^)]*)\\)(?: ([=!]) (.+))?");

    /** A call, and the answer that is due: null if any is fine that is no exception. */
    static final class Row {
        final String name;
        final int[] args;
        final String due;

        Row(String name, int[] args, String due) {
            this.name = name;
            this.args = args;
            this.due = due;
        }

        boolean isRefused() {
            return due != null && due.startsWith("throws.");
        }

        boolean changesNothing() {
            return isRefused() || !DOING.contains(name);
        }

        private boolean isOfScribe() {
            return args.length > 0 && !List.of("setRule", "count", "page").contains(name);
        }

        /** Whether an answer tells the rule, which is another one with the scribes changed. */
        boolean tellsTheRule() {
            return List.of("setRule", "counts", "digest").contains(name)
                    || name.equals("count") && args[0] == 0;
        }

        Row mirrored() {
            int[] others = args.clone();
            if (isOfScribe() && (args[0] == 0 || args[0] == 1)) {
                others[0] = 1 - args[0];
            }
            boolean ofAuthors = name.startsWith("author") && due != null && !isRefused();
            return new Row(name, others, ofAuthors ? exchange(due) : due);
        }

        private static String exchange(String authors) {
            return authors.replace('0', 'x').replace('1', '0').replace('x', '1');
        }

        @Override
        public String toString() {
            String list = Arrays.toString(args);
            return name + "(" + list.substring(1, list.length() - 1) + ")";
        }
    }

    private final String sentence;
    private final List<Row> done = new ArrayList<>();
    // What is asked to see a change, and what it answers if there is none; kept while `done` stays.
    private final List<List<Row>> probes = new ArrayList<>();
    private final List<List<String>> unchanged = new ArrayList<>();

    private Script(String sentence) {
        this.sentence = sentence;
    }

    /** What the sentence of the document says holds in this run, and with the scribes changed. */
    static void edge(String sentence, String... parts) {
        List<Row> rows = read(String.join("\n", parts));
        int calls = new Script(sentence).run(rows);
        if (calls < MOST_CALLS && rows.stream().noneMatch(Row::tellsTheRule)) {
            new Script(sentence + " (the scribes changed)").run(mirrored(rows));
        }
    }

    /** What 0 does is done by 1 and the other way round, so the rule for ties is that of 1. */
    private static List<Row> mirrored(List<Row> rows) {
        List<Row> mirrored = read("setRule(1) = 0");
        for (Row row : rows) {
            mirrored.add(row.mirrored());
        }
        return mirrored;
    }

    private int run(List<Row> rows) {
        Player player = new Player();
        for (Row row : rows) {
            String got = player.answer(row);
            String what = sentence + " / after " + tail() + " the call " + row;
            if (row.due != null) {
                Check.same(what, got, row.due);
            } else if (got.startsWith("throws.")) {
                Check.tell(what + " answered " + got);
            }
            if (!row.changesNothing()) {
                done.add(row);
                probes.clear();
                unchanged.clear();
            } else if (!SEVERAL.contains(row.name)) {
                lookForChanges(row);
            }
        }
        Check.same(sentence + " / calls beyond the 512th",
                Math.max(0, player.calls - MOST_CALLS), 0);
        return player.calls;
    }

    private String tail() {
        int from = Math.max(0, done.size() - 6);
        return done.size() + " calls " + (from > 0 ? ".. " : "") + done.subList(from, done.size());
    }

    private void lookForChanges(Row row) {
        if (probes.isEmpty()) {
            probes.addAll(Probes.after(done));
            for (List<Row> asked : probes) {
                unchanged.add(Player.after(done).all(asked));
            }
        }
        for (int part = 0; part < probes.size(); part++) {
            Player player = Player.after(done);
            player.answer(row);
            List<String> got = player.all(probes.get(part));
            Check.same(sentence + " / calls beyond the 512th to see changes",
                    Math.max(0, player.calls - MOST_CALLS), 0);
            tellFirstChange(row, probes.get(part), got, unchanged.get(part));
        }
    }

    private void tellFirstChange(Row row, List<Row> asked, List<String> got, List<String> due) {
        for (int i = 0; i < due.size(); i++) {
            if (!got.get(i).equals(due.get(i))) {
                Check.tell(sentence + " / after " + tail() + " the call " + row + " changes what "
                        + asked.get(i) + " answers " + i + " calls later: " + got.get(i)
                        + ", not " + due.get(i));
                return;
            }
        }
    }

    static List<Row> read(String text) {
        List<Row> rows = new ArrayList<>();
        for (String line : text.split("\n")) {
            if (!line.isBlank()) {
                readLine(line.strip(), rows);
            }
        }
        return rows;
    }

    /** A list in braces stands for each of its numbers in turn. */
    private static void readLine(String line, List<Row> rows) {
        int open = line.indexOf('{');
        if (open >= 0) {
            int close = line.indexOf('}');
            for (String each : line.substring(open + 1, close).split(",")) {
                readLine(line.substring(0, open) + each.strip() + line.substring(close + 1), rows);
            }
            return;
        }
        Matcher form = FORM.matcher(line);
        if (!form.matches()) {
            throw new AssertionError("not a row: " + line);
        }
        String due = form.group(5);
        if ("!".equals(form.group(4))) {
            due = "throws." + THROWN.get(due);
        }
        int times = form.group(1) == null ? 1 : Integer.parseInt(form.group(1));
        for (int time = 0; time < times; time++) {
            rows.add(new Row(form.group(2), numbers(form.group(3)), due));
        }
    }

    private static int[] numbers(String list) {
        if (list.isBlank()) {
            return new int[0];
        }
        String[] words = list.split(",");
        int[] numbers = new int[words.length];
        for (int i = 0; i < words.length; i++) {
            String word = words[i].strip();
            numbers[i] = word.equals("MIN") ? Integer.MIN_VALUE
                    : word.equals("MAX") ? Integer.MAX_VALUE : Integer.parseInt(word);
        }
        return numbers;
    }

    /** The rows by which a scribe sets these letters at the end of a copy of so many. */
    static String types(int scribe, int from, String letters) {
        StringBuilder rows = new StringBuilder();
        for (int i = 0; i < letters.length(); i++) {
            rows.append("set(").append(scribe).append(", ").append(from + i).append(", ")
                    .append(letters.charAt(i) - 'a').append(", 0)\n");
        }
        return rows.toString();
    }

    /** The rows by which both copies become these letters, all set by the scribe 0. */
    static String both(String letters) {
        StringBuilder rows = new StringBuilder();
        for (int from = 0; from < letters.length(); from += 12) {
            String part = letters.substring(from, Math.min(letters.length(), from + 12));
            rows.append(types(0, from, part)).append("meet() = ").append(part.length())
                    .append('\n');
        }
        return rows.toString();
    }

    /** So many letters, from a to z and on from a. */
    static String letters(int number) {
        return "abcdefghijklmnopqrstuvwxyz".repeat(3).substring(0, number);
    }
}
