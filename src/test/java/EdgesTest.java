import java.math.BigInteger;

/**
 * The edges of the promises, sentence by sentence, each by a run (or some) of its own; those of the
 * promises 5 and 18 are in UndoingTest.
 */
final class EdgesTest {
    private static final String NO_MORE = "0 0 0 0 0 0 0";

    private EdgesTest() {
    }

    private static void edge(String sentence, String... parts) {
        Script.edge(sentence, parts);
    }

    private static String both(String letters) {
        return Script.both(letters);
    }

    private static String letters(int number) {
        return Script.letters(number);
    }

    private static void newObject() {
        edge("1: Creates two empty copies", "counts() = [" + NO_MORE + "]",
                "abouts(0) = [" + NO_MORE + "]", "abouts(1) = [" + NO_MORE + "]", """
                first() = -1
                mean() = 0.0
                lost({0, 1}) = 0
                undoes({0, 1}) = -1
                letter({0, 1}, 0) ! index
                author({0, 1}, 0) ! index
                goes({0, 1}, 0) ! index
                way({0, 1}, 0, 0) ! index
                page(0) ! index
                strike({0, 1}, 0) ! index
                undo({0, 1}) ! state
                come({0, 1}) ! state
                would({0, 1}, 0, 3, {0, 1}) = 0
                would({0, 1}, 1, 3, 0) ! index
                meet() = 0
                """);
    }

    private static void setRule() {
        edge("2: the rule for ties from now on", """
                setRule(1) = 0
                set(0, 0, 3, 0) = 1
                would(1, 0, 3, 0) = 0
                meet() = 1
                setRule(0) = 1
                set(0, 0, 3, 0) = 1
                would(1, 0, 3, 0) = 1
                meet() = 1
                setRule(2) = 0
                set(0, 0, 3, 0) = 1
                would(1, 0, 2, 0) = 0
                would(1, 0, 3, 0) = 1
                would(1, 0, 4, 0) = 1
                """);
        edge("2: Returns the one before", """
                setRule(2) = 0
                setRule(2) = 2
                setRule(1) = 2
                setRule(1) = 1
                setRule(0) = 1
                setRule(0) = 0
                """);
        edge("2: Throws IndexOutOfBoundsException if rule is not 0 to 2", """
                setRule({-1, 3, MIN, MAX}) ! index
                setRule({0, 1, 2})
                setRule({-1, 3, MIN, MAX}) ! index
                count(0) = 2
                """);
        edge("2: Throws IllegalStateException if a stroke is on the way: to 1", """
                set(0, 0, 3, 0) = 1
                setRule({0, 1, 2}) ! state
                come(1) = 1
                setRule(1) = 0
                """);
        edge("2: Throws IllegalStateException if a stroke is on the way: to 0", both("a"), """
                strike(1, 0) = 0
                setRule({0, 1, 2}) ! state
                come(0) = 2
                setRule(2) = 0
                """);
        edge("2: Throws IllegalStateException if a stroke is on the way: that does nothing",
                both("a"), """
                strike({0, 1}, 0) = 0
                setRule(1) ! state
                come(0) = 0
                setRule(1) ! state
                come(1) = 0
                setRule(1) = 0
                """);
    }

    private static void set() {
        edge("3: place: 0 to as many as there are letters on the own copy", """
                set({0, 1}, {-1, 1, MIN, MAX}, 3, 0) ! index
                set(0, 0, 3, 0) = 1
                set(0, {-1, 2, MIN, MAX}, 3, 0) ! index
                set(0, 1, 4, 0) = 2
                set(0, 3, 3, 0) ! index
                set(1, 1, 3, 0) ! index
                set(1, 0, 3, 0) = 1
                set(0, 3, 3, 0) ! index
                copy(0) = [de]
                """);
        edge("3: Returns how many strokes are on the way to the other scribe then", """
                set(0, 0, 3, 0) = 1
                set(0, 0, 3, 0) = 2
                set(1, 0, 3, 0) = 1
                come(1) = 1
                set(0, 0, 3, 0) = 2
                set(1, 0, 3, 0) = 2
                meet() = 4
                set(1, 0, 3, 0) = 1
                """);
        edge("3: Throws IllegalArgumentException if letter is not 0 to 25", """
                set({0, 1}, 0, {-1, 26, MIN, MAX}, 0) ! argument
                set({0, 1}, 0, 0, 0) = 1
                set({0, 1}, 0, 25, 0) = 2
                letter({0, 1}, 0) = 25
                letter({0, 1}, 1) = 0
                """);
        edge("3: Throws IllegalArgumentException if intent is not 0 to 1", """
                set({0, 1}, 0, 3, {-1, 2, MIN, MAX}) ! argument
                set({0, 1}, 0, 3, 0) = 1
                set({0, 1}, 0, 3, 1) = 2
                """);
        edge("3: if there are 40 letters or more on the own copy", both(letters(39)), """
                set(0, 39, 3, 0) = 1
                set(0, {0, 40}, 3, 0) ! state
                strike(0, 40) ! index
                strike(0, 39) = 3
                set(0, 0, 4, 0) = 3
                set(0, 0, 3, 0) ! state
                """);
        edge("3: 40 letters or more: 41", both(letters(39)), """
                set({0, 1}, 0, 3, 0) = 1
                set({0, 1}, 0, 3, 0) ! state
                meet() = 2
                about({0, 1}, 0) = 41
                set({0, 1}, {0, 41}, 3, 0) ! state
                set({0, 1}, 42, 3, 0) ! index
                strike(1, 0) = 3
                set(1, 0, 3, 0) ! state
                strike(1, 0) = 3
                set(1, 0, 3, 0) = 3
                """);
        edge("3: on the own copy: not on the other one, and not on the page", both(letters(39)), """
                set(0, 0, 3, 0) = 1
                set(1, 0, 4, 0) = 1
                count(2) = 41
                """);
        edge("3: or 12 strokes on the way to the other scribe", """
                11 * set(1, 0, 3, 0)
                set(1, 0, 3, 0) = 12
                set(1, 0, 3, 0) ! state
                come(0) = 1
                set(1, 0, 3, 0) = 12
                set(1, 0, 3, 0) ! state
                """);
        edge("3: to the other scribe: not those to this one", "12 * set(0, 0, 3, 0)", """
                11 * set(1, 0, 3, 0)
                set(1, 0, 3, 0) = 12
                set({0, 1}, 0, 3, 0) ! state
                count(1) = 24
                come(0) = 1
                set(0, 0, 3, 0) ! state
                set(1, 0, 3, 0) = 12
                """);
    }

    private static void strike() {
        edge("4: its place on the own copy", both("abc"), """
                strike({0, 1}, {-1, 3, MIN, MAX}) ! index
                strike(0, 2) = 2
                strike(0, 2) ! index
                strike(1, 2) = 2
                strike(0, 0) = 0
                strike(0, 1) ! index
                strike(0, 0) = 1
                strike(0, 0) ! index
                copy(0) = []
                copy(1) = [ab]
                """);
        edge("4: Returns the letter", """
                set(0, 0, 25, 0) = 1
                set(0, 1, 0, 0) = 2
                set(0, 2, 25, 0) = 3
                meet() = 3
                strike(1, 1) = 0
                strike(1, 1) = 25
                strike(0, 0) = 25
                """);
        edge("4: if there is no letter at that place: on an empty copy", """
                strike({0, 1}, {-1, 0, 1}) ! index
                set(0, 0, 3, 0) = 1
                strike(1, 0) ! index
                strike(0, 0) = 3
                """);
        edge("4: if 12 strokes are on the way to the other scribe", both(letters(14)), """
                11 * strike(0, 0)
                strike(0, 0) = 11
                strike(0, {0, 1}) ! state
                strike(0, 2) ! index
                come(1) = 2
                strike(0, 1) = 13
                strike(0, 0) ! state
                """);
        edge("4: to the other scribe: not those to this one", both(letters(14)), """
                12 * strike(0, 2)
                11 * strike(1, 0)
                strike(1, 0) = 11
                strike(1, 0) ! state
                strike(0, 0) ! state
                """);
        edge("4: with 40 letters and with more it strikes all the same", both(letters(39)), """
                set({0, 1}, 39, 3, 0) = 1
                strike(0, 39) = 3
                set(0, 39, 3, 0) = 3
                meet() = 4
                about(0, 0) = 41
                strike(0, 40) = 3
                strike(0, 39) = 3
                """);
    }

    private static void comeAndMeet() {
        edge("6: Returns 0 if it does nothing, 1 if it sets, 2 if it strikes", both("ab"), """
                strike(0, 0) = 0
                set(0, 1, 3, 0) = 2
                strike(0, 0) = 1
                strike(1, 0) = 0
                come(1) = 0
                come(1) = 1
                come(1) = 2
                come(0) = 0
                """);
        edge("6: Throws IndexOutOfBoundsException if scribe is not 0 to 1", """
                set({0, 1}, 0, 3, 0) = 1
                come({-1, 2, MIN, MAX}) ! index
                come({0, 1}) = 1
                come({-1, 2, MIN, MAX}) ! index
                """);
        edge("6: Throws IllegalStateException if none is on the way to this one", """
                come({0, 1}) ! state
                set(0, 0, 3, 0) = 1
                come(0) ! state
                come(1) = 1
                come({0, 1}) ! state
                set(1, 0, 3, 0) = 1
                come(1) ! state
                come(0) = 1
                come({0, 1}) ! state
                """);
        edge("7: All strokes that are on the way come. Returns how many", """
                meet() = 0
                set(0, 0, 3, 0) = 1
                meet() = 1
                set(1, 0, 3, 0) = 1
                meet() = 1
                set(1, 0, 4, 0) = 1
                2 * set(0, 0, 5, 0)
                meet() = 3
                count(1) = 0
                copy({0, 1}) = [ffedd]
                meet() = 0
                """);
        edge("7: All strokes: 12 to each, those that do nothing too", both(letters(14)), """
                12 * strike(0, 1)
                12 * strike(1, 0)
                meet() = 24
                abouts(0) = [1 26 26 0 12 11 1]
                abouts(1) = [1 12 12 0 26 11 0]
                copy({0, 1}) = [n]
                meet() = 0
                """);
    }

    private static void letterAndAuthor() {
        String own = both("az") + "set(1, 1, 12, 0) = 1\n";
        edge("8: Returns the letter there on the copy of this one", own, """
                letter(0, 0) = 0
                letter(0, 1) = 25
                letter(1, 0) = 0
                letter(1, 1) = 12
                letter(1, 2) = 25
                """);
        edge("8: if scribe is not 0 to 1", own, "letter({-1, 2, MIN, MAX}, {0, 2}) ! index");
        edge("8: or there is no letter at that place", own, """
                letter(0, {-1, 2, 3, MIN, MAX}) ! index
                letter(1, {-1, 3, MIN, MAX}) ! index
                strike(0, 1) = 25
                letter(0, 1) ! index
                letter(0, 0) = 0
                strike(0, 0) = 0
                letter(0, 0) ! index
                letter(1, 2) = 25
                """);
        edge("8: with 52 letters", fiftyTwo(), """
                letter({0, 1}, 0) = 0
                letter({0, 1}, 51) = 3
                letter({0, 1}, {-1, 52, 64}) ! index
                author({0, 1}, 0) = 0
                author({0, 1}, {28, 39}) = 0
                author({0, 1}, {40, 51}) = 1
                author({0, 1}, {-1, 52, 64}) ! index
                """);
        edge("9: Returns the scribe who set the letter there on the copy of this one", own, """
                author(0, {0, 1}) = 0
                author(1, 0) = 0
                author(1, 1) = 1
                author(1, 2) = 0
                come(0) = 1
                author(0, 1) = 1
                author(0, 2) = 0
                """);
        edge("9: if scribe is not 0 to 1", own, "author({-1, 2, MIN, MAX}, {0, 2}) ! index");
        edge("9: or there is no letter at that place", own, """
                author(0, {-1, 2, 3, MIN, MAX}) ! index
                author(1, {-1, 3, MIN, MAX}) ! index
                strike(0, 1) = 25
                author(0, 1) ! index
                strike(0, 0) = 0
                author(0, 0) ! index
                author(1, 2) = 0
                """);
    }

    /** Both copies are 52 letters, as many as there can be: 40 of the scribe 0, 12 of 1 behind. */
    private static String fiftyTwo() {
        return both(letters(28)) + "12 * set(0, 28, 2, 0)\n12 * set(1, 28, 3, 0)\nmeet() = 24\n";
    }

    private static void about() {
        edge("10: 0 letters on the copy", """
                about({0, 1}, 0) = 0
                set(0, 0, 3, 0) = 1
                about(0, 0) = 1
                about(1, 0) = 0
                come(1) = 1
                about(1, 0) = 1
                strike(1, 0) = 3
                about(1, 0) = 0
                about(0, 0) = 1
                """);
        edge("10: 0 letters on the copy: 52", fiftyTwo(), "about({0, 1}, 0) = 52");
        edge("10: 1 strokes that this one wrote in all, those as well by which one undoes", """
                about({0, 1}, 1) = 0
                set(0, 0, 3, 0) = 1
                about(0, 1) = 1
                about(1, 1) = 0
                come(1) = 1
                strike(1, 0) = 3
                about(1, 1) = 1
                undo(1) = 0
                about(1, 1) = 2
                meet() = 2
                undo(0) = -1
                about(0, 1) = 1
                set(0, 0, 3, 0) = 1
                undo(0) = 0
                about(0, 1) = 3
                """);
        edge("10: 2 strokes of this one that can be undone still", both("a"), """
                about(0, 2) = 1
                about(1, 2) = 0
                strike(1, 0) = 0
                about(1, 2) = 1
                come(0) = 2
                about(0, 2) = 1
                undo(0) = -1
                about(0, 2) = 0
                undo(1) = 0
                about(1, 2) = 0
                """);
        edge("10: 3 strokes on the way to this one", """
                about({0, 1}, 3) = 0
                12 * set(0, 0, 3, 0)
                about(1, 3) = 12
                about(0, 3) = 0
                come(1) = 1
                about(1, 3) = 11
                set(1, 0, 3, 0) = 1
                about(0, 3) = 1
                meet() = 12
                about({0, 1}, 3) = 0
                """);
        edge("10: 4 strokes that came to this one in all, 5 those of them that did nothing",
                both("ab"), """
                about(0, 4) = 0
                about(1, 4) = 2
                strike({0, 1}, 0) = 0
                strike({0, 1}, 0) = 1
                set(1, 0, 3, 0) = 3
                come(0) = 0
                about(0, {4, 5}) = 1
                about(1, 4) = 2
                about(1, 5) = 0
                come(1) = 0
                about(1, 4) = 3
                about(1, 5) = 1
                meet() = 3
                about(0, 4) = 3
                about(0, 5) = 2
                about(1, 4) = 4
                about(1, 5) = 2
                """);
        edge("10: 6 letters on the copy that this one set", """
                set(0, 0, 3, 0) = 1
                set(0, 0, 3, 0) = 2
                set(1, 0, 3, 0) = 1
                about(0, 6) = 2
                about(1, 6) = 1
                meet() = 3
                about(0, 6) = 2
                about(1, 6) = 1
                strike(0, 2) = 3
                about(0, 6) = 2
                strike(0, 0) = 3
                about(0, 6) = 1
                about(1, 6) = 1
                come(1) = 2
                about(1, 6) = 0
                """);
        edge("10: if scribe is not 0 to 1, or what is not 0 to 6", both("a"), """
                about({-1, 2, MIN, MAX}, {0, 6}) ! index
                about({0, 1}, {-1, 7, MIN, MAX}) ! index
                abouts(0) = [1 1 1 0 0 0 1]
                abouts(1) = [1 0 0 0 1 0 0]
                """);
    }

    private static void way() {
        edge("11: number: from 0: the first one to come", both("ab"), """
                way({0, 1}, 0, 0) ! index
                set(0, 2, 20, 1) = 1
                strike(0, 0) = 0
                way(1, 0, 0) = 1
                way(1, 1, 0) = 2
                way(1, {-1, 2, MIN, MAX}, {0, 3}) ! index
                way(0, {-1, 0, 1}, 0) ! index
                come(1) = 1
                way(1, 0, 0) = 2
                way(1, 1, 0) ! index
                come(1) = 2
                way(1, 0, 0) ! index
                """);
        edge("11: number: with 12 strokes on the way", """
                11 * set(0, 0, 3, 0)
                way(1, 10, 2) = 3
                way(1, 11, 2) ! index
                set(0, 0, 4, 0) = 12
                way(1, 11, 2) = 4
                way(1, {-1, 12}, 2) ! index
                come(1) = 1
                way(1, 10, 2) = 4
                way(1, 11, 2) ! index
                """);
        edge("11: what: 0 what it does: 0 nothing, 1 it sets, 2 it strikes", both("ab"), """
                strike(0, 0) = 0
                set(0, 0, 3, 0) = 2
                strike(0, 1) = 1
                strike(1, 0) = 0
                way(1, 0, 0) = 0
                way(1, 1, 0) = 1
                way(1, 2, 0) = 2
                way(0, 0, 0) = 0
                """);
        edge("11: 1 its place, -1 if it does nothing", both("ab"), """
                strike(0, 0) = 0
                set(0, 0, 3, 0) = 2
                strike(0, 1) = 1
                way(1, {0, 1}, 1) = 0
                way(1, 2, 1) = 1
                strike(1, 0) = 0
                way(1, 0, 1) = -1
                way(0, 0, 1) = -1
                """);
        edge("11: 2 its letter, -1 if it does not set", both("ab"), """
                set(0, 0, 25, 1) = 1
                set(0, 0, 0, 1) = 2
                strike(0, 2) = 0
                strike(0, 2) = 1
                strike(1, 0) = 0
                way(1, 0, 2) = 25
                way(1, 1, 2) = 0
                way(1, {2, 3}, 2) = -1
                """);
        edge("11: 3 its intent, -1 if it does not set", both("ab"), """
                set(0, 0, 3, 1) = 1
                set(0, 0, 3, 0) = 2
                strike(0, 2) = 0
                strike(0, 2) = 1
                strike(1, 0) = 0
                way(1, 0, 3) = 1
                way(1, 1, 3) = 0
                way(1, {2, 3}, 3) = -1
                """);
        edge("11: Returns this, as it is by now", both("ab"), """
                set(0, 2, 20, 0) = 1
                way(1, 0, 1) = 2
                set(1, 0, 21, 0) = 1
                way(1, 0, 1) = 3
                strike(1, 0) = 21
                way(1, 0, 1) = 2
                """);
        edge("11: if scribe is not 0 to 1, there is no such stroke, or what is not 0 to 3",
                both("ab"), """
                strike({0, 1}, 1) = 1
                way({-1, 2, MIN, MAX}, 0, 0) ! index
                way({0, 1}, {-1, 1, MIN, MAX}, 0) ! index
                way({0, 1}, 0, {-1, 4, MIN, MAX}) ! index
                way({0, 1}, 0, 0) = 0
                way({0, 1}, 0, {1, 2, 3}) = -1
                """);
    }

    private static void count() {
        edge("12: 0 the rule", "count(0) = 0", "setRule(1) = 0", "count(0) = 1", "setRule(2) = 1",
                "count(0) = 2");
        edge("12: 1 strokes on the way to both", """
                count(1) = 0
                12 * set(0, 0, 3, 0)
                count(1) = 12
                12 * set(1, 0, 3, 0)
                count(1) = 24
                come(1) = 1
                count(1) = 23
                meet() = 23
                count(1) = 0
                """);
        edge("12: 2 letters of the page", both("abc"), """
                count(2) = 3
                set(0, 0, 3, 0) = 1
                count(2) = 4
                set(1, 0, 3, 0) = 1
                count(2) = 5
                strike(0, 1) = 0
                count(2) = 4
                strike(1, 1) = 0
                count(2) = 4
                strike(1, 2) = 2
                count(2) = 3
                meet() = 5
                count(2) = 3
                """);
        edge("12: 2 letters of the page: 52 of them", both(letters(28)),
                "12 * set(0, 28, 3, 0)", "12 * set(1, 0, 3, 0)", "count(2) = 52",
                "meet() = 24", "count(2) = 52");
        edge("12: 2 letters of the page: none", both("ab"), "strike(0, 0)", "strike(1, 1)",
                "count(2) = 0", "page(0) ! index", "meet() = 2", "count(2) = 0");
        edge("12: 3 places at which both copies differ (with another letter", both("abc"), """
                count(3) = 0
                strike(0, 0) = 0
                set(0, 0, 25, 0) = 2
                count(3) = 1
                strike(1, 2) = 2
                set(1, 2, 25, 0) = 2
                count(3) = 2
                meet() = 4
                count(3) = 0
                """);
        edge("12: 3 (or one of them alone with a letter)", """
                set(0, 0, 0, 0) = 1
                count(3) = 1
                set(0, 1, 0, 0) = 2
                count(3) = 2
                set(1, 0, 0, 0) = 1
                count(3) = 1
                set(1, 0, 0, 0) = 2
                count(3) = 0
                set(1, 0, 0, 0) = 3
                count(3) = 1
                set(1, 0, 1, 0) = 4
                count(3) = 3
                """);
        edge("12: 5 strokes written in all, 6 strokes that came in all", both("ab"), """
                count(5) = 2
                count(6) = 2
                strike({0, 1}, 0) = 0
                set(1, 0, 3, 0) = 2
                count(5) = 5
                count(6) = 2
                come(1) = 0
                count(6) = 3
                undo(1) = 0
                count(5) = 6
                undo(0) = 0
                count(5) = 7
                meet() = 4
                count(6) = 7
                count(5) = 7
                """);
        edge("12: if what is not 0 to 6", both("a"), """
                count({-1, 7, MIN, MAX}) ! index
                counts() = [0 0 1 0 0 1 1]
                """);
    }

    private static void countOfTies() {
        edge("12: 4 ties in all: how often two strokes that set at the same place", both("abc"), """
                count(4) = 0
                set({0, 1}, 1, 3, 0) = 1
                count(4) = 1
                meet() = 2
                set(1, 0, 3, 1) = 1
                set(0, 0, 4, 0) = 1
                count(4) = 2
                meet() = 2
                setRule(2) = 0
                set({0, 1}, 7, 3, 1) = 1
                count(4) = 3
                """);
        edge("12: 4 not at places next to each other, and not by one scribe alone", both("abc"), """
                set(0, 1, 3, 0) = 1
                set(0, 1, 3, 0) = 2
                set(1, 0, 3, 0) = 1
                count(4) = 0
                toward(1) = [1,2,3,0 1,2,3,0]
                set(1, 1, 3, 0) = 2
                toward(1) = [1,3,3,0 1,3,3,0]
                set(1, 4, 3, 0) = 3
                count(4) = 0
                """);
        edge("12: 4 not of one that sets and one that strikes, nor of two that strike",
                both("abcd"), """
                strike(0, 1) = 1
                set(1, 1, 3, 0) = 1
                strike(1, 2) = 1
                strike(1, 3) = 3
                strike(0, 2) = 3
                count(4) = 0
                """);
        edge("12: 4 as they were ahead of this: moved to the same place by the one ahead",
                both("abc"), """
                strike(1, 0) = 0
                set(1, 1, 3, 0) = 2
                set(0, 2, 3, 0) = 1
                count(4) = 1
                """);
        edge("12: 4 as they were ahead of this: moved off the same place by the one ahead",
                both("abc"), """
                set(1, 0, 3, 0) = 1
                set(1, 2, 3, 0) = 2
                set(0, 2, 3, 0) = 1
                count(4) = 0
                """);
        edge("12: 4 how often: one that is written ties with each of some on the way", """
                set(0, 0, 3, 0) = 1
                set(0, 1, 3, 0) = 2
                set(0, 2, 3, 0) = 3
                set(1, 0, 3, 1) = 1
                count(4) = 3
                toward(1) = [1,0,3,0 1,1,3,0 1,2,3,0]
                toward(0) = [1,3,3,1]
                set(1, 0, 3, 1) = 2
                count(4) = 6
                """);
        edge("12: 4 how often: one that goes first ties once, if the others are behind", """
                set(0, 0, 3, 1) = 1
                set(0, 1, 3, 1) = 2
                set(1, 0, 3, 0) = 1
                count(4) = 1
                """);
        edge("12: 4 those of undoing as well", both("abc"), """
                strike(0, 1) = 1
                set(1, 1, 3, 0) = 1
                count(4) = 0
                undo(0) = 1
                count(4) = 1
                toward(1) = [2,2,-1,-1 1,1,1,0]
                """);
        edge("12: 4 would() counts none", both("abc"), """
                set(0, 1, 3, 0) = 1
                would(1, 1, 3, {0, 1}) = 2
                undoes(0) = 1
                count(4) = 0
                set(1, 1, 3, 0) = 1
                count(4) = 1
                would({0, 1}, 1, 3, 0)
                count(4) = 1
                """);
        edge("12: 4 ties in all: those that came are counted on", both("a"), """
                set({0, 1}, 0, 3, 0) = 1
                meet() = 2
                count(4) = 1
                set({0, 1}, 0, 3, 0) = 1
                meet() = 2
                count(4) = 2
                undo({0, 1})
                count(4) = 2
                """);
    }

    private static void first() {
        edge("13: the first place at which both copies differ", both("abcd"), """
                strike(0, 2) = 2
                first() = 2
                strike(0, 0) = 0
                first() = 0
                undo(0) = 0
                first() = 2
                """);
        edge("13: as count(3) has it: with another letter, the last one alone", both("abc"), """
                strike(1, 2) = 2
                set(1, 2, 3, 0) = 2
                first() = 2
                count(3) = 1
                """);
        edge("13: as count(3) has it: one of them alone with a letter", """
                set(0, 0, 0, 0) = 1
                first() = 0
                set(1, 0, 0, 0) = 1
                first() = -1
                set(1, 1, 0, 0) = 2
                first() = 1
                set(0, 1, 0, 0) = 2
                set(0, 2, 0, 0) = 3
                first() = 2
                """);
        edge("13: -1 if they are the same", both("ab"), """
                first() = -1
                strike({0, 1}, 1) = 1
                first() = -1
                strike({0, 1}, 0) = 0
                first() = -1
                """);
        edge("13: with the most letters on one copy", both(letters(39)), "set(0, 39, 3, 0)",
                "first() = 39", "set(1, 39, 3, 0)", "first() = -1", "come(0) = 1", "first() = 40",
                "come(1) = 1", "first() = -1");
    }

    private static void page() {
        edge("14: Returns the letter there", both("abc"), """
                set(1, 1, 20, 0) = 1
                strike(0, 2) = 2
                set(0, 0, 25, 0) = 2
                set(1, 4, 0, 0) = 2
                page(0) = 25
                page(1) = 0
                page(2) = 20
                page(3) = 1
                page(4) = 0
                page({-1, 5}) ! index
                """);
        edge("14: if there is no letter at that place", both("ab"), """
                page({-1, 2, MIN, MAX}) ! index
                page(1) = 1
                set(0, 2, 3, 0) = 1
                page(2) = 3
                page({-1, 3, MIN, MAX}) ! index
                strike(1, 0) = 0
                page(1) = 3
                page(2) ! index
                strike(1, 0) = 1
                page(0) = 3
                page({-1, 1}) ! index
                undo(0) = 2
                page({-1, 0}) ! index
                """);
        edge("14: 52 letters", both(letters(28)), """
                12 * set(0, 28, 2, 0)
                12 * set(1, 28, 3, 0)
                page({28, 39}) = 2
                page({40, 51}) = 3
                page({-1, 52, 64}) ! index
                """);
        edge("14: 12 strokes that do nothing change nothing on it", both(letters(13)), """
                12 * strike(0, 1)
                12 * strike(1, 1)
                page(0) = 0
                page(1) ! index
                """);
    }

    /** Where the letters of 0, "abcd", stand on the page by a stroke of 1; how many are lost. */
    private static void goes(String sentence, String stroke, String due, int lost) {
        edge(sentence + " (" + stroke + ")", both("abcd"), stroke, "goesAll(0) = [" + due + "]",
                "lost(0) = " + lost, "lost(1) = 0");
    }

    private static void goes() {
        String sentence = "15: the place at which the letter there will stand on the page";
        goes(sentence, "set(1, 0, 20, 0)", "1 2 3 4", 0);
        goes(sentence, "set(1, 2, 20, 1)", "0 1 3 4", 0);
        goes(sentence, "set(1, 4, 20, 0)", "0 1 2 3", 0);
        sentence = "15: -1 if it will be struck";
        goes(sentence, "strike(1, 0)", "-1 0 1 2", 1);
        goes(sentence, "strike(1, 2)", "0 1 -1 2", 1);
        goes(sentence, "strike(1, 3)", "0 1 2 -1", 1);
        edge("15: by one stroke after the other", both("abcd"), """
                set(1, 1, 20, 0) = 1
                strike(1, 2) = 1
                strike(1, 1) = 20
                strike(1, 0) = 0
                set(1, 2, 21, 0) = 5
                goesAll(0) = [-1 -1 0 1]
                goesAll(1) = [0 1 2]
                lost(0) = 2
                lost(1) = 0
                """);
        edge("15: by one that does nothing it stays", both("abcd"), """
                strike({0, 1}, 1) = 1
                goesAll({0, 1}) = [0 1 2]
                lost({0, 1}) = 0
                """);
        edge("15: on the copy of this one", both("ab"), """
                set(1, 0, 20, 0) = 1
                strike(0, 1) = 1
                goesAll(0) = [1]
                goesAll(1) = [0 1 -1]
                """);
        edge("15: if scribe is not 0 to 1, or there is no letter at that place", both("ab"), """
                strike(0, 0) = 0
                goes({-1, 2, MIN, MAX}, 0) ! index
                goes(0, {-1, 1, MIN, MAX}) ! index
                goes(1, {-1, 2, MIN, MAX}) ! index
                goes(0, 0) = 0
                goes(1, 0) = -1
                goes(1, 1) = 0
                strike(0, 0) = 1
                goes(0, {-1, 0}) ! index
                """);
        edge("15: with 52 letters", both(letters(28)), """
                12 * set(0, 28, 2, 0)
                12 * set(1, 28, 3, 0)
                goes(0, 39) = 39
                goes(1, 28) = 40
                goes(1, 39) = 51
                goes({0, 1}, 40) ! index
                meet() = 24
                goes({0, 1}, 51) = 51
                goes({0, 1}, {-1, 52}) ! index
                """);
        edge("16: how many letters on the copy of this one will be struck", both("abcd"), """
                lost({0, 1}) = 0
                4 * strike(0, 0)
                lost(0) = 0
                lost(1) = 4
                strike(1, 0) = 0
                lost(1) = 3
                undo(0) = 0
                lost({0, 1})
                come(1) = 0
                come(1) = 2
                lost(1) = 2
                set(1, 0, 20, 0) = 2
                lost(1) = 2
                lost(0) = 0
                """);
        edge("16: one that was set and struck again on the way is not on the copy", both("ab"), """
                set(1, 1, 20, 0) = 1
                strike(1, 1) = 20
                lost({0, 1}) = 0
                """);
        edge("16: on an empty copy", "lost({0, 1}) = 0", "set(0, 0, 3, 0) = 1",
                "lost({0, 1}) = 0");
        edge("16: if scribe is not 0 to 1", both("ab"), "strike(0, 0) = 0",
                "lost({-1, 2, MIN, MAX}) ! index", "lost(0) = 0", "lost(1) = 1");
    }

    private static void would() {
        edge("17: place: 0 to as many as there are letters on the own copy", both("ab"), """
                set(0, 2, 3, 0) = 1
                would(0, {-1, 4, MIN, MAX}, 3, 0) ! index
                would(1, {-1, 3, MIN, MAX}, 3, 0) ! index
                would(0, 0, 3, 0) = 0
                would(0, 3, 3, 0) = 3
                would(1, 0, 3, 0) = 0
                would(1, 2, 3, 0) = 3
                """);
        edge("17: the place at which the letter would stand on the page", both("abc"), """
                set(1, 1, 20, 0) = 1
                strike(1, 0) = 0
                set(1, 2, 21, 1) = 3
                would(0, 0, 3, 0) = 0
                would(0, 1, 3, 0) = 0
                would(0, 1, 3, 1) = 1
                would(0, 2, 3, 0) = 2
                would(0, 2, 3, 1) = 2
                would(0, 3, 3, 0) = 4
                set(0, 3, 3, 0) = 1
                page(4) = 3
                """);
        edge("17: by all strokes on the way, those that do nothing too", both("abcd"), """
                strike({0, 1}, 1) = 1
                set(1, 0, 20, 0) = 2
                would(0, 0, 3, 0) = 0
                would(0, 0, 3, 1) = 1
                would(0, 3, 3, 0) = 4
                """);
        edge("17: (also with 40 letters)", both(letters(39)), """
                set({0, 1}, 39, 3, 0) = 1
                would(0, 40, 3, 0) = 40
                would(0, 40, 3, 1) = 41
                would(1, 40, 3, 0) = 41
                would(0, 0, 3, 0) = 0
                would({0, 1}, 41, 3, 0) ! index
                """);
        edge("17: (also with 52 letters)", fiftyTwo(), """
                would({0, 1}, 52, 3, 0) = 52
                would({0, 1}, 0, 3, 1) = 0
                would({0, 1}, {-1, 53}, 3, 0) ! index
                """);
        edge("17: (also with 12 strokes on the way)", both("ab"), "12 * set(0, 1, 3, 0)",
                "12 * set(1, 1, 4, 0)", """
                would(0, 14, 5, 0) = 26
                would(0, 0, 5, 0) = 0
                would(0, 1, 5, 0) = 1
                would(1, 1, 5, 0) = 13
                would(1, 14, 5, 0) = 26
                """);
        edge("17: (nothing is changed)", both("abc"), """
                set(1, 1, 20, 0) = 1
                would({0, 1, 0, 1}, 1, 3, 0) = 1
                would(0, 1, 3, 1) = 2
                set(0, 1, 3, 0) = 1
                undoes(0) = 1
                undo(0) = 1
                undo(0) = 2
                """);
        edge("17: if scribe is not 0 to 1, or there is no such place", both("ab"), """
                would({-1, 2, MIN, MAX}, 0, 3, 0) ! index
                would({0, 1}, {-1, 3, MIN, MAX}, 3, 0) ! index
                would({-1, 2}, 0, 26, 0) ! index
                would(0, {-1, 3}, 26, 2) ! index
                """);
        edge("17: if letter is not 0 to 25, or intent is not 0 to 1", both("ab"), """
                would({0, 1}, 0, {-1, 26, MIN, MAX}, 0) ! argument
                would({0, 1}, 0, 3, {-1, 2, MIN, MAX}) ! argument
                would({0, 1}, 2, {0, 25}, {0, 1}) = 2
                """);
    }

    private static void mean() {
        edge("19: the mean number of letters of both copies", """
                mean() = 0.0
                set(0, 0, 3, 0) = 1
                mean() = 0.5
                set(1, 0, 3, 0) = 1
                mean() = 1.0
                come(1) = 1
                mean() = 1.5
                set(1, 0, 3, 0) = 2
                mean() = 2.0
                strike(0, 0) = 3
                mean() = 1.5
                """);
        edge("19: the mean number of letters of both copies: 52, and 51 and 52", fiftyTwo(),
                "mean() = 52.0", "strike(1, 0) = 0", "mean() = 51.5");
    }

    private static void digest() {
        String some = both("ab") + """
                setRule(2) = 0
                strike({0, 1}, 0) = 0
                set(0, 1, 3, 1) = 2
                set(1, 0, 20, 0) = 2
                set(1, 2, 25, 1) = 3
                come(1) = 0
                """;
        edge("20: what count() and about() tell, the copies, the ways, undoes(), the page",
                "digested() = fine", some, "digested() = fine", "undo({0, 1})",
                "digested() = fine", "meet()", "digested() = fine");
        edge("20: with 52 letters", fiftyTwo(), "digested() = fine");
        edge("20: with 12 strokes on the way to each", both(letters(28)), """
                12 * set(0, 28, 2, 0)
                6 * set(1, 28, 3, 1)
                6 * strike(1, 0)
                digested() = fine
                """);
        edge("20: the letters of the copy, each followed by its author; of the page none",
                both("z"), "set(1, 0, 1, 0) = 1", "come(0) = 1", "digested() = fine");
        // 1549 and the 23 numbers of a new object, each 0 but for the undoes() of both, each -1.
        BigInteger d = BigInteger.valueOf(1549);
        for (int number = 1; number <= 23; number++) {
            d = d.multiply(BigInteger.valueOf(31));
            d = number == 15 || number == 23 ? d.subtract(BigInteger.ONE) : d;
        }
        Check.same("20: beyond 64 bits", d.bitLength() > 64 ? 1 : 0, 1);
        edge("20: which wraps around as a 64-bit integer", "digest() = " + d.longValue());
    }

    public static void main(String[] args) {
        newObject();
        setRule();
        set();
        strike();
        comeAndMeet();
        letterAndAuthor();
        about();
        way();
        count();
        countOfTies();
        first();
        page();
        goes();
        would();
        mean();
        digest();
        Check.end();
    }
}
