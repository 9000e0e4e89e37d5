/** The sentences of 'What it is' and of 'Terms', each by a run (or some) of its own. */
final class TermsTest {
    private static final String NONE = "0,-1,-1,-1";

    private TermsTest() {
    }

    private static void edge(String sentence, String... parts) {
        Script.edge(sentence, parts);
    }

    private static String both(String letters) {
        return Script.both(letters);
    }

    private static void numbersAndScribes() {
        edge("Letters are numbers, 0 to 25", """
                set(0, 0, 0, 0) = 1
                set(0, 1, 25, 0) = 2
                set(0, 0, {-1, 26, MIN, MAX}, 0) ! argument
                would(0, 0, 0, 0) = 0
                would(0, 2, 25, 0) = 2
                would(0, 0, {-1, 26, MIN, MAX}, 0) ! argument
                copy(0) = [az]
                """);
        edge("places are counted from 0", """
                set(0, 1, 7, 0) ! index
                set(0, 0, 7, 0) = 1
                letter(0, 0) = 7
                letter(0, {-1, 1}) ! index
                """);
        edge("Scribes. There are two, 0 and 1", both("ab"), """
                strike(0, 0) = 0
                set(1, 0, 5, 0) = 1
                set({-1, 2, MIN, MAX}, 0, 0, 0) ! index
                strike({-1, 2, MIN, MAX}, 0) ! index
                undo({-1, 2, MIN, MAX}) ! index
                come({-1, 2, MIN, MAX}) ! index
                letter({-1, 2, MIN, MAX}, 0) ! index
                author({-1, 2, MIN, MAX}, 0) ! index
                about({-1, 2, MIN, MAX}, 0) ! index
                way({-1, 2, MIN, MAX}, 0, 0) ! index
                goes({-1, 2, MIN, MAX}, 0) ! index
                lost({-1, 2, MIN, MAX}) ! index
                would({-1, 2, MIN, MAX}, 0, 0, 0) ! index
                undoes({-1, 2, MIN, MAX}) ! index
                letter({0, 1}, 0)
                undoes({0, 1}) = 0
                come({0, 1})
                """);
        edge("each has a copy of the page, a row of letters, empty at first", """
                about({0, 1}, 0) = 0
                letter({0, 1}, {-1, 0, 1}) ! index
                set(0, 0, 3, 0) = 1
                copy(0) = [d]
                copy(1) = []
                set(1, 0, 4, 0) = 1
                copy(0) = [d]
                copy(1) = [e]
                """);
    }

    private static void strokes() {
        edge("it comes there, and what stood there and behind it stands one place further", """
                set(0, 0, 1, 0)
                set(0, 0, 0, 0)
                copy(0) = [ab]
                set(0, 1, 2, 0)
                copy(0) = [acb]
                set(0, 3, 3, 0)
                copy(0) = [acbd]
                meet() = 4
                copy(1) = [acbd]
                """);
        edge("it strikes the letter at a place out: what stood behind it stands one place ahead",
                both("abcde"), """
                strike(1, 4) = 4
                copy(1) = [abcd]
                strike(1, 0) = 0
                copy(1) = [bcd]
                strike(1, 1) = 2
                copy(1) = [bd]
                2 * strike(1, 0)
                copy(1) = []
                meet() = 5
                copy(0) = []
                """);
        edge("or it does nothing", both("abc"), """
                strike({0, 1}, 1) = 1
                come(0) = 0
                copy(0) = [ac]
                come(1) = 0
                copy(1) = [ac]
                """);
        edge("One that sets has an intent, 0 or 1", """
                set(0, 0, 7, 0) = 1
                set(0, 0, 7, 1) = 2
                way(1, 0, 3) = 0
                way(1, 1, 3) = 1
                set(0, 0, 7, {-1, 2, MIN, MAX}) ! argument
                would(0, 0, 7, {0, 1}) = 0
                would(0, 0, 7, {-1, 2, MIN, MAX}) ! argument
                """);
        edge("Rule for ties. It is 0 (at first) to 2", """
                count(0) = 0
                setRule({-1, 3, MIN, MAX}) ! index
                setRule(2) = 0
                count(0) = 2
                setRule({-1, 3, MIN, MAX}) ! index
                setRule(1) = 2
                setRule(0) = 1
                count(0) = 0
                """);
    }

    /** By this rule the letters of both, set at one place at once, are of these authors then. */
    private static void tie(String sentence, int rule, String of0, String of1, String authors) {
        String set0 = "set(0, 1, " + of0 + ") = 1";
        String set1 = "set(1, 1, " + of1 + ") = 1";
        int zeroFirst = authors.equals("01") ? 1 : 0;
        String then = "count(4) = 1\nway(1, 0, 1) = " + (2 - zeroFirst) + "\nway(0, 0, 1) = "
                + (1 + zeroFirst) + "\nmeet() = 2\nauthors({0, 1}) = [0" + authors + "0]";
        String name = sentence + " (rule " + rule + ": " + of0 + " and " + of1 + ")";
        edge(name, "setRule(" + rule + ")", both("xy"), set0, set1, then);
        edge(name, "setRule(" + rule + ")", both("xy"), set1, set0, then);
        String would = "would(0, 1, " + of0 + ") = " + (2 - zeroFirst);
        edge(name, "setRule(" + rule + ")", both("xy"), set1, would);
        would = "would(1, 1, " + of1 + ") = " + (1 + zeroFirst);
        edge(name, "setRule(" + rule + ")", both("xy"), set0, would);
    }

    private static void ties() {
        int[][] pairs = {{3, 4}, {4, 3}, {0, 25}, {25, 0}, {24, 25}, {1, 0}, {7, 7}, {0, 0},
            {25, 25}};
        for (int[] pair : pairs) {
            for (int rule = 0; rule <= 2; rule++) {
                tie("with two intents the one with 0", rule, pair[0] + ", 0", pair[1] + ", 1",
                        "01");
                tie("with two intents the one with 0", rule, pair[0] + ", 1", pair[1] + ", 0",
                        "10");
            }
            for (int intent = 0; intent <= 1; intent++) {
                String of0 = pair[0] + ", " + intent;
                String of1 = pair[1] + ", " + intent;
                tie("with the same intent by the rule 0 that of the scribe 0", 0, of0, of1, "01");
                tie("by the rule 1 that of the scribe 1", 1, of0, of1, "10");
                if (pair[0] == pair[1]) {
                    tie("of the same letter that of the scribe 0", 2, of0, of1, "01");
                } else {
                    tie("by the rule 2 the one with the smaller letter", 2, of0, of1,
                            pair[0] < pair[1] ? "01" : "10");
                }
            }
        }
        edge("Of two strokes of both scribes that set at the same place: not at two places",
                both("xy"), """
                setRule(1) = 0
                set(0, 1, 5, 1) = 1
                set(1, 2, 4, 0) = 1
                count(4) = 0
                toward(0) = [1,3,4,0]
                toward(1) = [1,1,5,1]
                """);
    }

    /**
     * What a stroke is when it was moved by another: both written on "abcdef", S for the scribe,
     * each one ahead of the other one, each by each scribe.
     */
    private static void moved(String sentence, String stroke, String by, String due) {
        String name = sentence + " (" + stroke + " by " + by + ")";
        for (int scribe = 0; scribe <= 1; scribe++) {
            String one = stroke.replace("S", Integer.toString(scribe));
            String other = by.replace("S", Integer.toString(1 - scribe));
            String then = "toward(" + (1 - scribe) + ") = [" + due + "]";
            edge(name, both("abcdef"), one, other, then);
            edge(name, both("abcdef"), other, one, then);
        }
    }

    private static void movedBySets() {
        String by = "set(S, 3, 21, 0)";
        String sentence = "by one that sets at q: one that sets at a smaller place stays as it is";
        moved(sentence, "set(S, 0, 20, 1)", by, "1,0,20,1");
        moved(sentence, "set(S, 2, 20, 1)", by, "1,2,20,1");
        moved("by one that sets at q: or at q, if it goes first, stays as it is",
                "set(S, 3, 20, 0)", "set(S, 3, 21, 1)", "1,3,20,0");
        sentence = "by one that sets at q: one that sets, otherwise its place is 1 greater";
        moved(sentence, "set(S, 3, 20, 1)", by, "1,4,20,1");
        moved(sentence, "set(S, 4, 20, 0)", by, "1,5,20,0");
        moved(sentence, "set(S, 6, 20, 0)", by, "1,7,20,0");
        sentence = "by one that sets at q: one that strikes at a smaller place stays as it is";
        moved(sentence, "strike(S, 0)", by, "2,0,-1,-1");
        moved(sentence, "strike(S, 2)", by, "2,2,-1,-1");
        sentence = "by one that sets at q: one that strikes, otherwise its place is 1 greater";
        moved(sentence, "strike(S, 3)", by, "2,4,-1,-1");
        moved(sentence, "strike(S, 3)", "set(S, 3, 21, 1)", "2,4,-1,-1");
        moved(sentence, "strike(S, 4)", by, "2,5,-1,-1");
        moved(sentence, "strike(S, 5)", by, "2,6,-1,-1");
        moved(sentence, "strike(S, 0)", "set(S, 0, 21, 1)", "2,1,-1,-1");
    }

    private static void movedByStrikes() {
        String by = "strike(S, 3)";
        String sentence = "by one that strikes at q: "
                + "one that sets at q or a smaller place stays as it is";
        moved(sentence, "set(S, 3, 20, 0)", by, "1,3,20,0");
        moved(sentence, "set(S, 3, 20, 1)", by, "1,3,20,1");
        moved(sentence, "set(S, 2, 20, 1)", by, "1,2,20,1");
        moved(sentence, "set(S, 0, 20, 1)", by, "1,0,20,1");
        moved(sentence, "set(S, 0, 20, 1)", "strike(S, 0)", "1,0,20,1");
        sentence = "by one that strikes at q: one that sets, otherwise its place is 1 less";
        moved(sentence, "set(S, 4, 20, 0)", by, "1,3,20,0");
        moved(sentence, "set(S, 6, 20, 0)", by, "1,5,20,0");
        sentence = "by one that strikes at q: one that strikes at a smaller place stays as it is";
        moved(sentence, "strike(S, 2)", by, "2,2,-1,-1");
        moved(sentence, "strike(S, 0)", by, "2,0,-1,-1");
        sentence = "by one that strikes at q: at a greater one its place is 1 less";
        moved(sentence, "strike(S, 4)", by, "2,3,-1,-1");
        moved(sentence, "strike(S, 5)", by, "2,4,-1,-1");
        moved(sentence, "strike(S, 1)", "strike(S, 0)", "2,0,-1,-1");
        sentence = "by one that strikes at q: and at q it does nothing from then on";
        moved(sentence, "strike(S, 3)", by, NONE);
        moved(sentence, "strike(S, 0)", "strike(S, 0)", NONE);
        moved(sentence, "strike(S, 5)", "strike(S, 5)", NONE);
    }

    private static void movedByNone() {
        String none = both("abcdef") + "strike({0, 1}, 3)\n";
        edge("by one that does nothing it stays as it is: one that sets", none, """
                set(0, 5, 20, 0) = 2
                set(0, 4, 21, 1) = 3
                set(0, 0, 22, 0) = 4
                toward(1) = [0,-1,-1,-1 1,5,20,0 1,4,21,1 1,0,22,0]
                """);
        edge("by one that does nothing it stays as it is: one that strikes", none, """
                strike(0, 4) = 5
                strike(0, 3) = 4
                strike(0, 0) = 0
                toward(1) = [0,-1,-1,-1 2,4,-1,-1 2,3,-1,-1 2,0,-1,-1]
                """);
        edge("by one that does nothing it stays as it is: those behind it on the way",
                both("abcdef"), """
                strike(1, 3) = 3
                set(1, 5, 20, 0) = 2
                strike(1, 4) = 5
                strike(1, 3) = 4
                strike(0, 3) = 3
                toward(0) = [0,-1,-1,-1 1,5,20,0 2,4,-1,-1 2,3,-1,-1]
                toward(1) = [0,-1,-1,-1]
                """);
        edge("as one that does nothing always does", none, """
                set(0, 0, 20, 0)
                set(1, 0, 21, 0)
                strike({0, 1}, 1)
                way({0, 1}, 0, 0) = 0
                way({0, 1}, 0, {1, 2, 3}) = -1
                undo({0, 1})
                way({0, 1}, 0, 0) = 0
                way({0, 1}, 0, {1, 2, 3}) = -1
                come({0, 1}) = 0
                """);
    }

    private static void writing() {
        edge("Writing: it is done on the own copy at once", both("abc"), """
                set(0, 1, 20, 0) = 1
                copy(0) = [aubc]
                copy(1) = [abc]
                strike(1, 2) = 2
                copy(1) = [ab]
                copy(0) = [aubc]
                """);
        edge("Then it meets the strokes that are on the way to this scribe: not the others",
                both("abc"), """
                set(0, 0, 20, 0) = 1
                set(0, 0, 21, 0) = 2
                toward(1) = [1,0,20,0 1,0,21,0]
                toward(0) = []
                """);
        edge("one by one, in their order", both("abcde"), """
                strike(1, 1) = 1
                strike(1, 1) = 2
                strike(1, 1) = 3
                strike(0, 2) = 2
                toward(0) = [2,1,-1,-1 0,-1,-1,-1 2,1,-1,-1]
                toward(1) = [0,-1,-1,-1]
                meet() = 4
                copy({0, 1}) = [ae]
                """);
        edge("each by the other one as that was ahead of this meeting: both strike the same",
                both("abc"), """
                strike(1, 1) = 1
                strike(0, 1) = 1
                toward({0, 1}) = [0,-1,-1,-1]
                """);
        edge("each by the other one as that was ahead of this meeting: it sets behind a strike",
                both("abcde"), """
                strike(1, 2) = 2
                set(0, 3, 20, 0) = 1
                toward(0) = [2,2,-1,-1]
                toward(1) = [1,2,20,0]
                """);
        edge("each by the other one as that was ahead of this meeting: it strikes ahead of a set",
                both("abcde"), """
                set(1, 3, 20, 0) = 1
                strike(0, 2) = 2
                toward(0) = [1,2,20,0]
                toward(1) = [2,2,-1,-1]
                """);
        edge("the one on the way stays so in its place in the row", both("abc"), """
                set(1, 0, 20, 0) = 1
                set(1, 4, 21, 0) = 2
                strike(1, 2) = 1
                set(0, 1, 10, 0) = 1
                toward(0) = [1,0,20,0 1,5,21,0 2,3,-1,-1]
                """);
        edge("the other one goes on so to the next one", both("abc"), """
                set(1, 0, 20, 0) = 1
                set(1, 2, 21, 0) = 2
                set(0, 1, 10, 1) = 1
                toward(0) = [1,0,20,0 1,2,21,0]
                toward(1) = [1,3,10,1]
                count(4) = 1
                thePage() = [uavkbc]
                """);
        edge("Then it comes to the end of the row of those on the way to the other scribe",
                both("abc"), """
                set(0, 3, 20, 0) = 1
                strike(0, 0) = 0
                set(0, 0, 21, 1) = 3
                toward(1) = [1,3,20,0 2,0,-1,-1 1,0,21,1]
                """);
    }

    private static void messengers() {
        edge("The first stroke of those on the way to a scribe is done on the copy of this one",
                """
                set(0, 0, 0, 0)
                set(0, 0, 1, 0)
                strike(0, 1) = 0
                come(1) = 1
                copy(1) = [a]
                come(1) = 1
                copy(1) = [ba]
                come(1) = 2
                copy(1) = [b]
                copy(0) = [b]
                """);
        edge("done on the copy, as it is by then", both("abc"), """
                set(0, 3, 20, 0) = 1
                strike(1, 0) = 0
                set(1, 2, 21, 0) = 2
                come(1) = 1
                copy(1) = [bcuv]
                2 * come(0)
                copy(0) = [bcuv]
                """);
        edge("it is not on the way any more", both("a"), """
                set(0, 0, 20, 0) = 1
                set(0, 1, 21, 0) = 2
                come(1) = 1
                toward(1) = [1,1,21,0]
                set(1, 0, 22, 0) = 1
                toward(0) = [1,0,22,0]
                come(1) = 1
                toward(1) = []
                come(1) ! state
                """);
        edge("One that does nothing stays in its row, and comes, like any other one", both("ab"),
                """
                strike({0, 1}, 0) = 0
                set(0, 0, 20, 0) = 2
                toward(1) = [0,-1,-1,-1 1,0,20,0]
                about(1, 3) = 2
                count(1) = 3
                come(1) = 0
                about(1, 4) = 3
                about(1, 5) = 1
                toward(1) = [1,0,20,0]
                """);
        edge("The page is what a copy is when all strokes on the way to its scribe have come: of 0",
                pageToCome(), "thePage() = [wvcu]", "4 * come(0)", "copy(0) = [wvcu]",
                "thePage() = [wvcu]");
        edge("The page is what a copy is when all strokes on the way to its scribe have come: of 1",
                pageToCome(), "thePage() = [wvcu]", "2 * come(1)", "copy(1) = [wvcu]",
                "thePage() = [wvcu]");
        edge("it is the same for both", pageToCome(), "meet() = 6", "copy({0, 1}) = [wvcu]",
                "first() = -1");
    }

    private static String pageToCome() {
        return both("abcd") + """
                set(1, 4, 20, 0) = 1
                strike(1, 0) = 0
                set(1, 1, 21, 0) = 3
                strike(1, 3) = 3
                set(0, 0, 22, 0) = 1
                strike(0, 2) = 1
                """;
    }

    private static void throwing() {
        String rich = both("abcdef") + """
                strike({0, 1}, 3) = 3
                set(0, 1, 7, 1) = 2
                set(1, 1, 4, 1) = 2
                strike(0, 0) = 0
                undo(1) = 1
                """;
        edge("A method that throws an exception changes nothing: setRule", "setRule(1) = 0", rich,
                "setRule({0, 1, 2}) ! state", "setRule({-1, 3}) ! index", "count(0) = 1");
        edge("A method that throws an exception changes nothing", rich, """
                set(0, 7, 3, 0) ! index
                set(1, 0, 26, 0) ! argument
                set(1, 0, 3, 2) ! argument
                strike(0, 6) ! index
                undo(2) ! index
                come(2) ! index
                letter(0, 6) ! index
                author(1, 6) ! index
                about(0, 7) ! index
                way(0, 3, 0) ! index
                count(7) ! index
                page(6) ! index
                goes(1, 6) ! index
                lost(2) ! index
                would(0, 7, 3, 0) ! index
                would(0, 0, 26, 0) ! argument
                undoes(2) ! index
                """);
        edge("A method that throws an exception changes nothing: with 12 strokes on the way",
                rich, "9 * set(0, 0, 3, 0)", """
                set(0, 0, 3, 0) ! state
                strike(0, 0) ! state
                undo(0) ! state
                """);
        edge("A method that throws an exception changes nothing: with 40 letters",
                both(Script.letters(40)), """
                set({0, 1}, 0, 3, 0) ! state
                undo({0, 1}) ! state
                come({0, 1}) ! state
                """);
    }

    private static void severalExceptions() {
        String sentence = "If several exceptions apply, the one that is named first is thrown: ";
        edge(sentence + "setRule", "set({0, 1}, 0, 3, 0) = 1", "setRule({-1, 3}) ! index",
                "setRule({0, 2}) ! state");
        String wrong = """
                set({-1, 2}, 0, 26, 2) ! index
                set({-1, 2}, 0, 3, 0) ! index
                set(0, {-1, 41}, 26, 2) ! index
                set(0, {-1, 41}, 3, 0) ! index
                set(0, 0, {-1, 26}, 0) ! argument
                set(0, 0, 3, {-1, 2}) ! argument
                set(0, 0, 26, 2) ! argument
                strike({-1, 2}, 0) ! index
                strike(0, {-1, 40}) ! index
                undo({-1, 2}) ! index
                would({-1, 2}, 0, 26, 2) ! index
                would(0, {-1, 41}, 26, 2) ! index
                would(0, 0, 26, 0) ! argument
                """;
        edge(sentence + "40 letters", both(Script.letters(40)), wrong);
        edge(sentence + "40 letters, and 12 strokes on the way", both(Script.letters(28)),
                "12 * set(0, 28, 3, 0)", "12 * set(1, 28, 4, 0)", wrong);
        edge(sentence + "12 strokes on the way", "12 * set(0, 0, 3, 0)", "12 * set(1, 0, 3, 0)",
                wrong.replace("41", "13").replace("40", "12"));
        edge(sentence + "none on the way, none to undo", "come({-1, 2}) ! index",
                "undo({-1, 2}) ! index");
    }

    /** The 512th call is answered as any other one, with as many strokes to undo as can be. */
    private static void fiveHundredAndTwelveCalls() {
        String twelve = """
                12 * set(0, 0, 3, 0)
                meet() = 12
                12 * strike(1, 0)
                meet() = 12
                """;
        edge("An object is used for at most 512 calls: 228 strokes of each", twelve.repeat(19), """
                12 * set(0, 0, 5, 0)
                meet() = 12
                5 * undo(0) = 0
                """);
        edge("An object is used for at most 512 calls: told by the last one", twelve.repeat(19), """
                12 * set(0, 0, 5, 0)
                meet() = 12
                4 * undo(0) = 0
                about(0, 2) = 236
                """);
        edge("An object is used for at most 512 calls: all undone", twelve.repeat(13), """
                156 * undo(0) = -1
                undo(0) ! state
                12 * undo(1) = 0
                meet() = 12
                4 * undo(1) = 0
                """);
    }

    public static void main(String[] args) {
        numbersAndScribes();
        strokes();
        ties();
        movedBySets();
        movedByStrikes();
        movedByNone();
        writing();
        messengers();
        throwing();
        severalExceptions();
        fiveHundredAndTwelveCalls();
        Check.end();
    }
}
