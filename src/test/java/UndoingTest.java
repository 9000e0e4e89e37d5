/** The sentences of 'Undoing' and of the promises 5 and 18, each by a run (or some) of its own. */
final class UndoingTest {
    private UndoingTest() {
    }

    private static void edge(String sentence, String... parts) {
        Script.edge(sentence, parts);
    }

    private static String both(String letters) {
        return Script.both(letters);
    }

    private static void theLastOfTheOwn() {
        edge("A scribe undoes the last one of the own strokes that set or struck and were not "
                + "undone so far", both("ab"), """
                set(0, 2, 2, 0) = 1
                strike(0, 1) = 1
                about(0, 2) = 4
                undo(0) = 1
                copy(0) = [abc]
                undo(0) = 2
                copy(0) = [ab]
                undo(0) = -1
                undo(0) = 0
                copy(0) = [b]
                about(0, 2) = 0
                undo(0) ! state
                """);
        edge("of the own strokes: not of those of the other one", both("ab"), """
                undoes(1) = -1
                undo(1) ! state
                set(1, 2, 5, 0) = 1
                strike(1, 0) = 0
                2 * come(0)
                copy(0) = [bf]
                undoes(0) = 0
                undo(0) = 0
                copy(0) = [f]
                """);
        edge("by writing another stroke", both("ab"), """
                set(1, 0, 20, 0) = 1
                undo(0) = 1
                toward(1) = [2,2,-1,-1]
                toward(0) = [1,0,20,0]
                about(0, 1) = 3
                meet() = 2
                copy({0, 1}) = [ua]
                """);
    }

    private static void ofOneThatSet() {
        edge("of one that set a letter, it strikes this letter, wherever it stands by then", """
                set(0, 0, 7, 0) = 1
                meet() = 1
                undoes(0) = 0
                2 * set(1, 0, 8, 0)
                set(1, 3, 9, 0) = 3
                undoes(0) = 0
                come(0) = 1
                undoes(0) = 1
                2 * come(0)
                undoes(0) = 2
                strike(1, 0) = 8
                come(0) = 2
                undoes(0) = 1
                undo(0) = 1
                copy(0) = [ij]
                """);
        edge("it strikes this letter: not the same one that another set or that was set ahead", """
                set(0, 0, 7, 0) = 1
                set(0, 1, 7, 0) = 2
                meet() = 2
                set(1, 0, 7, 0) = 1
                set(1, 3, 7, 0) = 2
                meet() = 2
                authors(0) = [1001]
                undo(0) = 2
                authors(0) = [101]
                undo(0) = 1
                authors(0) = [11]
                """);
        edge("wherever it stands by then: one that is being struck stands there still", both("ab"),
                """
                strike(1, 1) = 1
                undoes(0) = 1
                undo(0) = 1
                toward({0, 1}) = [0,-1,-1,-1]
                """);
        edge("if it does not stand on it any more, nothing is written", both("ab"), """
                strike(1, 1) = 1
                come(0) = 2
                undoes(0) = -1
                undo(0) = -1
                about(0, 1) = 2
                toward(1) = []
                copy(0) = [a]
                """);
        edge("but the stroke counts as undone all the same", both("ab"), """
                strike(1, 1) = 1
                come(0) = 2
                about(0, 2) = 2
                undo(0) = -1
                about(0, 2) = 1
                undoes(0) = 0
                undo(0) = 0
                about(0, 2) = 0
                """);
    }

    private static void ofOneThatStruck() {
        edge("Of one that struck a letter, it sets the same letter", both("azb"), """
                strike(0, 1) = 25
                undo(0) = 1
                copy(0) = [azb]
                strike(1, 0) = 0
                undo(1) = 0
                copy(1) = [azb]
                """);
        edge("with the intent 0", """
                set(0, 0, 7, 1) = 1
                meet() = 1
                strike(0, 0) = 7
                undo(0) = 0
                toward(1) = [2,0,-1,-1 1,0,7,0]
                """);
        edge("at the place where it was", both("abc"), """
                strike(0, 2) = 2
                undoes(0) = 2
                undo(0) = 2
                strike(0, 0) = 0
                undoes(0) = 0
                undo(0) = 0
                strike(0, 1) = 1
                undoes(0) = 1
                undo(0) = 1
                copy(0) = [abc]
                meet() = 6
                copy(1) = [abc]
                """);
    }

    /** A scribe strikes the c of "abcdef"; a stroke of the other one, O, comes; it is undone. */
    private static void place(String sentence, String stroke, int due) {
        for (int scribe = 0; scribe <= 1; scribe++) {
            String others = stroke.replace("O", Integer.toString(1 - scribe));
            String undoes = "undoes(" + scribe + ") = ";
            edge(sentence + " (" + others + ")", both("abcdef"), "strike(" + scribe + ", 2) = 2",
                    "come(" + (1 - scribe) + ") = 2", others, undoes + 2, "come(" + scribe + ")",
                    undoes + due, "undo(" + scribe + ") = " + due);
        }
    }

    private static void thePlaceWhereItWas() {
        String sentence = "this place is 1 greater for each letter that was set at a smaller place";
        place(sentence, "set(O, 0, 20, 0)", 3);
        place(sentence, "set(O, 1, 20, 1)", 3);
        sentence = "set at a smaller place: not at the place itself or at a greater one";
        place(sentence, "set(O, 2, 20, 0)", 2);
        place(sentence, "set(O, 2, 20, 1)", 2);
        place(sentence, "set(O, 3, 20, 0)", 2);
        place(sentence, "set(O, 5, 20, 0)", 2);
        sentence = "and 1 less for each one that was struck at a smaller place";
        place(sentence, "strike(O, 0)", 1);
        place(sentence, "strike(O, 1)", 1);
        sentence = "struck at a smaller place: not at the place itself or at a greater one";
        place(sentence, "strike(O, 2)", 2);
        place(sentence, "strike(O, 3)", 2);
        place(sentence, "strike(O, 4)", 2);
        edge("since: not what was written ahead of it", both("abc"), """
                set(0, 0, 20, 0) = 1
                set(1, 0, 21, 0) = 1
                come(0) = 1
                strike(0, 3) = 1
                undoes(0) = 3
                undo(0) = 3
                """);
        edge("on the own copy: not what has not come", both("abc"), """
                strike(0, 2) = 2
                set(1, 0, 20, 0) = 1
                undoes(0) = 2
                come(1) = 2
                undoes(0) = 2
                come(0) = 1
                undoes(0) = 3
                """);
        edge("on the own copy: as it is done there, not as it was written", both("abcd"), """
                strike(0, 1) = 1
                strike(0, 1) = 2
                set(1, 3, 20, 0) = 1
                way(0, 0, 1) = 1
                come(0) = 1
                undo(0) = 1
                """);
        edge("by one that does nothing it stays", both("abc"), """
                strike(0, 2) = 2
                strike(0, 0) = 0
                strike(1, 0) = 0
                undoes(0) = 0
                come(0) = 0
                undo(0) = 0
                undo(0) = 2
                """);
    }

    private static void oneByOne() {
        edge("smaller than it is by then, one by one: greater than it was", both("abc"), """
                strike(0, 1) = 1
                come(1) = 2
                set(1, 0, 20, 0) = 1
                set(1, 1, 21, 0) = 2
                set(1, 3, 22, 0) = 3
                3 * come(0)
                undo(0) = 3
                """);
        edge("smaller than it is by then, one by one: less than it was", both("abcdef"), """
                strike(0, 2) = 2
                come(1) = 2
                strike(1, 0) = 0
                strike(1, 1) = 3
                strike(1, 0) = 1
                strike(1, 0) = 4
                come(0) = 2
                undoes(0) = 1
                come(0) = 2
                undoes(0) = 1
                come(0) = 2
                undoes(0) = 0
                come(0) = 2
                undoes(0) = 0
                undo(0) = 0
                copy(0) = [cf]
                """);
        edge("by whatever stroke: by own ones that struck", both("abcd"), """
                strike(0, 2) = 2
                strike(0, 0) = 0
                strike(0, 1) = 3
                undo(0) = 1
                undo(0) = 0
                undo(0) = 2
                copy(0) = [abcd]
                """);
        edge("by whatever stroke: by an own one that set, and is struck by the other one",
                both("abcd"), """
                strike(0, 2) = 2
                set(0, 0, 20, 0) = 2
                set(0, 0, 21, 0) = 3
                meet() = 3
                strike(1, 1) = 20
                come(0) = 2
                undo(0) = 0
                undo(0) = -1
                undo(0) = 2
                copy(0) = [abcd]
                """);
        edge("by whatever stroke: by those of undoing", both("abcd"), """
                strike(0, 2) = 2
                set(0, 1, 20, 0) = 2
                undo(0) = 1
                undoes(0) = 2
                strike(1, 0) = 0
                come(0) = 2
                undoes(0) = 1
                undo(1) = 0
                come(0) = 1
                undoes(0) = 2
                undo(0) = 2
                """);
        edge("by whatever stroke: all that are still to be undone, not the last one alone",
                both("abcdef"), """
                strike(0, 5) = 5
                strike(0, 3) = 3
                strike(0, 1) = 1
                3 * come(1)
                set(1, 1, 20, 0) = 1
                set(1, 3, 21, 0) = 2
                2 * come(0)
                undo(0) = 1
                undo(0) = 4
                undo(0) = 7
                copy(0) = [abucdvef]
                """);
    }

    private static void anotherLetter() {
        edge("The letter that is set so is another one than that which was struck", both("a"), """
                strike(0, 0) = 0
                undo(0) = 0
                copy(0) = [a]
                undoes(0) = -1
                undo(0) = -1
                copy(0) = [a]
                """);
        edge("and one of the scribe who undoes", both("ab"), """
                strike(1, 0) = 0
                undo(1) = 0
                authors(1) = [10]
                about(1, 6) = 1
                meet() = 2
                authors(0) = [10]
                about(0, 6) = 1
                """);
        edge("undoing the stroke that set the one that was struck writes nothing", both("ab"), """
                strike(1, 0) = 0
                undo(1) = 0
                meet() = 2
                undo(0) = 1
                undo(0) = -1
                copy(0) = [a]
                about(0, 1) = 3
                """);
    }

    private static void whatCanBeUndone() {
        edge("A stroke that set or struck can be undone, whatever became of it on its way",
                both("abc"), """
                strike({0, 1}, 1) = 1
                meet() = 2
                about(0, 2) = 4
                about(1, 2) = 1
                undo({0, 1}) = 1
                copy({0, 1}) = [abc]
                meet() = 2
                copy({0, 1}) = [abbc]
                """);
        edge("whatever became of it on its way: while it is on it still", both("abc"), """
                strike({0, 1}, 1) = 1
                undo(0) = 1
                toward(1) = [0,-1,-1,-1 1,1,1,0]
                undo(1) = 1
                meet() = 4
                copy({0, 1}) = [abbc]
                """);
        edge("A stroke by which one undoes cannot be undone: one that strikes", """
                set(0, 0, 3, 0) = 1
                undo(0) = 0
                about(0, 2) = 0
                undoes(0) = -1
                undo(0) ! state
                meet() = 2
                undo(0) ! state
                """);
        edge("A stroke by which one undoes cannot be undone: one that sets", both("a"), """
                strike(1, 0) = 0
                undo(1) = 0
                about(1, 2) = 0
                undoes(1) = -1
                undo(1) ! state
                meet() = 2
                undo(1) ! state
                """);
        edge("A stroke by which one undoes cannot be undone: the one ahead of both is", both("ab"),
                """
                strike(0, 0) = 0
                undo(0) = 0
                undo(0) = 1
                copy(0) = [a]
                """);
    }

    private static void answersOfUndo() {
        edge("5: Returns the place of the stroke that is written, on the own copy", both("abc"), """
                strike(0, 2) = 2
                set(1, 0, 20, 0) = 1
                undo(0) = 2
                way(1, 1, 1) = 3
                set(0, 1, 21, 0) = 3
                undo(0) = 1
                way(1, 3, 1) = 2
                """);
        edge("5: -1 if none is (the next undo() goes on to the stroke ahead)", both("abcd"), """
                strike(1, 3) = 3
                strike(1, 2) = 2
                2 * come(0)
                undo(0) = -1
                undo(0) = -1
                undo(0) = 1
                undo(0) = 0
                undo(0) ! state
                """);
        edge("5: Throws IndexOutOfBoundsException if scribe is not 0 to 1", both("a"), """
                set(1, 0, 3, 0) = 1
                undo({-1, 2, MIN, MAX}) ! index
                undo(0) = 0
                undo(1) = 0
                """);
        edge("5: if there is no stroke to undo", """
                undo({0, 1}) ! state
                set(0, 0, 3, 0) = 1
                undo(1) ! state
                meet() = 1
                undo(1) ! state
                undo(0) = 0
                undo({0, 1}) ! state
                """);
    }

    private static void undoWithFortyLetters() {
        edge("5: or 40 letters or more are on the own copy: not with 39, one that set",
                both(Script.letters(39)), "undo(0) = 38");
        edge("5: both also for one that set: 40 letters", both(Script.letters(40)), """
                undo(0) ! state
                strike(1, 0) = 0
                come(0) = 2
                undo(0) = 38
                """);
        edge("5: 40 letters or more: 41, one that set", both(Script.letters(39)), """
                set({0, 1}, 0, 3, 0) = 1
                meet() = 2
                undo({0, 1}) ! state
                strike(0, 40) = 12
                come(1) = 2
                undo({0, 1}) ! state
                """);
        edge("5: 40 letters: one that struck", both(Script.letters(39)), """
                strike(0, 5) = 5
                come(1) = 2
                2 * set(1, 0, 3, 0)
                come(0) = 1
                undoes(0) = 6
                come(0) = 1
                about(0, 0) = 40
                undo(0) ! state
                strike(1, 39) = 12
                come(0) = 2
                undo(0) = 7
                about(0, 0) = 40
                """);
        edge("5: and if nothing would be written: 40 letters", both(Script.letters(39)), """
                strike(1, 38) = 12
                2 * set(1, 0, 3, 0)
                3 * come(0)
                about(0, 0) = 40
                undoes(0) = -1
                undo(0) ! state
                strike(1, 0) = 3
                come(0) = 2
                undo(0) = -1
                """);
        edge("5: on the own copy: not on the other one", both(Script.letters(39)), """
                set(1, 39, 3, 0) = 1
                about(1, 0) = 40
                undo(1) ! state
                undo(0) = 38
                """);
    }

    private static void undoWithTwelveOnTheWay() {
        edge("5: both also for one that set: 12 strokes on the way", both("a"),
                "12 * set(0, 1, 3, 0)", """
                undo(0) ! state
                come(1) = 1
                undo(0) = 1
                about(1, 3) = 12
                undo(0) ! state
                """);
        edge("5: 12 strokes on the way: one that struck", both(Script.letters(14)),
                "12 * strike(0, 1)", """
                undo(0) ! state
                come(1) = 2
                undo(0) = 1
                about(1, 3) = 12
                undo(0) ! state
                """);
        edge("5: and if nothing would be written: 12 strokes on the way", both("a"), """
                strike(1, 0) = 0
                come(0) = 2
                12 * set(0, 0, 3, 0)
                meet() = 12
                12 * undo(0) = 0
                undoes(0) = -1
                undo(0) ! state
                come(1) = 2
                undo(0) = -1
                about(1, 3) = 11
                """);
        edge("5: to the other scribe: not those to this one", both("abc"), """
                12 * set(1, 0, 3, 0)
                undo(1) ! state
                undo(0) = 2
                strike(0, 0) = 0
                undo(0) = 0
                """);
        edge("5: 12 strokes on the way: those that do nothing too", both(Script.letters(14)),
                "12 * strike(0, 1)", "12 * strike(1, 1)", """
                way(1, {0, 11}, 0) = 0
                undo({0, 1}) ! state
                come(1) = 0
                undo(1) ! state
                undo(0) = 1
                """);
    }

    private static void undoes() {
        edge("18: Returns the place of the stroke that undo() would write: of one that set",
                both("abc"), """
                undoes(0) = 2
                set(0, 0, 3, 0) = 1
                undoes(0) = 0
                undo(0) = 0
                undoes(0) = 2
                """);
        edge("18: of one that struck", both("abc"), """
                strike(0, 2) = 2
                undoes(0) = 2
                strike(0, 0) = 0
                undoes(0) = 0
                undo(0) = 0
                undoes(0) = 2
                """);
        edge("18: on the own copy", both("abc"), """
                strike(0, 2) = 2
                2 * set(1, 0, 20, 0)
                undoes(0) = 2
                undoes(1) = 0
                """);
        edge("18: (also with 40 letters)", both(Script.letters(39)), """
                strike(0, 3) = 3
                come(1) = 2
                2 * set(1, 0, 3, 0)
                2 * come(0)
                about({0, 1}, 0) = 40
                undoes(0) = 5
                undoes(1) = 0
                """);
        edge("18: (also with 41 letters)", both(Script.letters(39)), """
                set({0, 1}, 39, 3, 0) = 1
                meet() = 2
                undoes(0) = 39
                undoes(1) = 40
                """);
        edge("18: (also with 12 strokes on the way)", both(Script.letters(13)),
                "12 * strike(0, 1)", "12 * set(1, 13, 3, 0)", """
                undoes(0) = 1
                undoes(1) = 13
                """);
        edge("18: -1 if it would write none", both("ab"), """
                strike(1, 1) = 1
                undoes(0) = 1
                come(0) = 2
                undoes(0) = -1
                """);
        edge("18: or there is none to undo", """
                undoes({0, 1}) = -1
                set(0, 0, 3, 0) = 1
                undoes(1) = -1
                undo(0) = 0
                undoes({0, 1}) = -1
                """);
        edge("18: (nothing is changed)", both("abc"), """
                strike(0, 1) = 1
                set(1, 1, 20, 0) = 1
                undoes({0, 1, 0, 1}) = 1
                undo({0, 1}) = 1
                undoes(0) = 2
                undoes(1) = -1
                """);
        edge("18: Throws IndexOutOfBoundsException if scribe is not 0 to 1", both("a"), """
                undoes({-1, 2, MIN, MAX}) ! index
                undoes({0, 1})
                """);
    }

    public static void main(String[] args) {
        theLastOfTheOwn();
        ofOneThatSet();
        ofOneThatStruck();
        thePlaceWhereItWas();
        oneByOne();
        anotherLetter();
        whatCanBeUndone();
        answersOfUndo();
        undoWithFortyLetters();
        undoWithTwelveOnTheWay();
        undoes();
        Check.end();
    }
}
