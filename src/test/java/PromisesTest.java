/** Each promise by its number: ordinary inputs, the edges that the document names, wrong inputs. */
final class PromisesTest {
    private static final int LOW = Integer.MIN_VALUE;
    private static final int HIGH = Integer.MAX_VALUE;

    private PromisesTest() {
    }

    /** The copy of a scribe, its letters as signs from 'a'. */
    private static String copy(TwoScribes x, int scribe) {
        StringBuilder text = new StringBuilder();
        for (int place = 0; place < x.about(scribe, 0); place++) {
            text.append((char) ('a' + x.letter(scribe, place)));
        }
        return text.toString();
    }

    private static String authors(TwoScribes x, int scribe) {
        StringBuilder text = new StringBuilder();
        for (int place = 0; place < x.about(scribe, 0); place++) {
            text.append(x.author(scribe, place));
        }
        return text.toString();
    }

    private static String page(TwoScribes x) {
        StringBuilder text = new StringBuilder();
        for (int place = 0; place < x.count(2); place++) {
            text.append((char) ('a' + x.page(place)));
        }
        return text.toString();
    }

    /** The strokes on the way to a scribe: what each does, its place, letter and intent. */
    private static String way(TwoScribes x, int scribe) {
        StringBuilder text = new StringBuilder();
        for (int number = 0; number < x.about(scribe, 3); number++) {
            text.append(number == 0 ? "" : " ");
            for (int what = 0; what < 4; what++) {
                text.append(what == 0 ? "" : ",").append(x.way(scribe, number, what));
            }
        }
        return text.toString();
    }

    private static void type(TwoScribes x, int scribe, String text) {
        for (int i = 0; i < text.length(); i++) {
            x.set(scribe, x.about(scribe, 0), text.charAt(i) - 'a', 0);
        }
    }

    /** Both copies are this text, which the scribe 0 has set, and nothing is on the way. */
    private static TwoScribes with(String text) {
        TwoScribes x = new TwoScribes();
        for (int i = 0; i < text.length(); i++) {
            x.set(0, i, text.charAt(i) - 'a', 0);
            x.come(1);
        }
        return x;
    }

    private static String repeat(String text, int times) {
        return text.repeat(times);
    }

    private static void newObject() {
        TwoScribes x = new TwoScribes();
        for (int what = 0; what <= 6; what++) {
            Check.same("1: new count " + what, x.count(what), 0);
            Check.same("1: new about 0 " + what, x.about(0, what), 0);
            Check.same("1: new about 1 " + what, x.about(1, what), 0);
        }
        Check.same("1: new first", x.first(), -1);
        Check.same("1: new mean", x.mean(), 0.0);
        Check.same("1: new undoes", x.undoes(0) + x.undoes(1), -2);
        TwoScribes y = new TwoScribes();
        x.set(0, 0, 1, 0);
        Check.same("1: objects are apart", y.about(0, 0) + y.count(1) + y.count(5), 0);
    }

    private static void setRule() {
        TwoScribes x = new TwoScribes();
        Check.same("2: first rule", x.setRule(2), 0);
        Check.same("2: then", x.setRule(1), 2);
        Check.same("2: the same again", x.setRule(1), 1);
        Check.same("2: now", x.count(0), 1);
        for (int rule : new int[] {-1, 3, LOW, HIGH}) {
            Check.refused("2: rule " + rule, x, Check.INDEX, () -> x.setRule(rule));
        }
        x.set(0, 0, 0, 0);
        Check.refused("2: one on the way to 1", x, Check.STATE, () -> x.setRule(0));
        Check.refused("2: the same rule too", x, Check.STATE, () -> x.setRule(1));
        Check.refused("2: index goes ahead", x, Check.INDEX, () -> x.setRule(3));
        x.come(1);
        x.strike(1, 0);
        Check.refused("2: one on the way to 0", x, Check.STATE, () -> x.setRule(0));
        x.come(0);
        Check.same("2: when all came", x.setRule(0), 1);
    }

    private static void strokesThatDoNothingHoldTheRule() {
        TwoScribes x = with("a");
        x.strike(0, 0);
        x.strike(1, 0);
        x.come(0);
        Check.refused("2: one that does nothing is on the way", x, Check.STATE,
                () -> x.setRule(1));
        x.come(1);
        Check.same("2: then it came", x.setRule(1), 0);
    }

    /** What both copies are when 0 and 1 set at the same place at once. */
    private static String tie(int rule, int letter0, int intent0, int letter1, int intent1) {
        TwoScribes x = with("xy");
        x.setRule(rule);
        x.set(0, 1, letter0, intent0);
        x.set(1, 1, letter1, intent1);
        String page = page(x);
        x.meet();
        Check.same("ties: both copies", copy(x, 0), copy(x, 1));
        Check.same("ties: the page", copy(x, 0), page);
        Check.same("ties: one", x.count(4), 1);
        TwoScribes y = with("xy");
        y.setRule(rule);
        y.set(1, 1, letter1, intent1);
        y.set(0, 1, letter0, intent0);
        Check.same("ties: whoever wrote first", page(y), page);
        return page;
    }

    private static void rulesForTies() {
        for (int rule = 0; rule <= 2; rule++) {
            Check.same("tie 0 1", tie(rule, 1, 0, 0, 1), "xbay");
            Check.same("tie 1 0", tie(rule, 0, 1, 1, 0), "xbay");
        }
        for (int intent = 0; intent <= 1; intent++) {
            Check.same("tie rule 0", tie(0, 1, intent, 0, intent), "xbay");
            Check.same("tie rule 0", tie(0, 0, intent, 1, intent), "xaby");
            Check.same("tie rule 1", tie(1, 1, intent, 0, intent), "xaby");
            Check.same("tie rule 1", tie(1, 0, intent, 1, intent), "xbay");
            Check.same("tie rule 2", tie(2, 1, intent, 0, intent), "xaby");
            Check.same("tie rule 2", tie(2, 0, intent, 1, intent), "xaby");
        }
        for (int rule = 0; rule <= 2; rule++) {
            TwoScribes x = new TwoScribes();
            x.setRule(rule);
            x.set(1, 0, 4, 1);
            x.set(0, 0, 4, 1);
            x.meet();
            Check.same("tie of the same letter, rule " + rule, authors(x, 0) + authors(x, 1),
                    rule == 1 ? "1010" : "0101");
        }
    }

    private static void set() {
        TwoScribes x = new TwoScribes();
        Check.same("3: set", x.set(0, 0, 0, 0), 1);
        Check.same("3: at the end", x.set(0, 1, 25, 1), 2);
        Check.same("3: between", x.set(0, 1, 1, 0), 3);
        Check.same("3: the other way counts alone", x.set(1, 0, 2, 0), 1);
        Check.same("3: own copy at once", copy(x, 0), "abz");
        Check.same("3: not the other one", copy(x, 1), "c");
        // The c ties with each of the three: it goes first once, with the intent 0 against 1.
        Check.same("3: to 1", way(x, 1), "1,0,0,0 1,2,25,1 1,1,1,0");
        Check.same("3: moved by all on the way", way(x, 0), "1,2,2,0");
        Check.same("3: page", page(x), "abcz");
        setRefused(x);
    }

    private static void setRefused(TwoScribes x) {
        for (int scribe : new int[] {-1, 2, LOW, HIGH}) {
            Check.refused("3: scribe " + scribe, x, Check.INDEX, () -> x.set(scribe, 0, 0, 0));
            Check.refused("3: scribe first", x, Check.INDEX, () -> x.set(scribe, 0, 26, 2));
        }
        for (int place : new int[] {-1, 4, LOW, HIGH}) {
            Check.refused("3: place " + place, x, Check.INDEX, () -> x.set(0, place, 0, 0));
            Check.refused("3: place first", x, Check.INDEX, () -> x.set(0, place, -1, 0));
        }
        for (int bad : new int[] {-1, 26, LOW, HIGH}) {
            Check.refused("3: letter " + bad, x, Check.ARGUMENT, () -> x.set(0, 0, bad, 0));
        }
        for (int bad : new int[] {-1, 2, LOW, HIGH}) {
            Check.refused("3: intent " + bad, x, Check.ARGUMENT, () -> x.set(0, 0, 0, bad));
        }
    }

    private static void setOnFull() {
        TwoScribes x = with(repeat("a", 39));
        Check.same("3: the 40th", x.set(0, 39, 1, 0), 1);
        Check.refused("3: 40 letters", x, Check.STATE, () -> x.set(0, 0, 0, 0));
        Check.refused("3: place ahead of 40", x, Check.INDEX, () -> x.set(0, 41, 0, 0));
        Check.refused("3: letter ahead of 40", x, Check.ARGUMENT, () -> x.set(0, 40, 26, 0));
        Check.same("3: the other copy has 39 still", x.set(1, 0, 2, 0), 1);
        Check.same("3: 41 on the page", x.count(2), 41);
        x.meet();
        Check.refused("3: 41 letters", x, Check.STATE, () -> x.set(1, 41, 0, 0));
        Check.refused("3: place 42 of 41", x, Check.INDEX, () -> x.set(1, 42, 0, 0));

        TwoScribes y = new TwoScribes();
        for (int number = 1; number <= 12; number++) {
            Check.same("3: up to 12", y.set(1, 0, number, 0), number);
        }
        Check.refused("3: 12 on the way", y, Check.STATE, () -> y.set(1, 0, 0, 0));
        Check.refused("3: intent ahead of 12", y, Check.ARGUMENT, () -> y.set(1, 0, 0, 2));
        Check.same("3: those to this one do not count", y.set(0, 0, 0, 0), 1);
        y.come(0);
        Check.same("3: 12 again", y.set(1, 0, 0, 0), 12);
    }

    private static void mostLetters() {
        TwoScribes x = with(repeat("a", 28));
        type(x, 0, repeat("b", 12));
        type(x, 1, repeat("c", 12));
        Check.same("the page of 52", page(x), repeat("a", 28) + repeat("b", 12) + repeat("c", 12));
        Check.same("would on 40", x.would(0, 40, 3, 0), 40);
        Check.same("would on 40 behind", x.would(0, 40, 3, 1), 52);
        x.meet();
        Check.same("copies of 52", x.about(0, 0) + x.about(1, 0), 104);
        Check.same("copies of 52 are the same", x.count(3), 0);
        Check.same("mean of 52", x.mean(), 52.0);
        Check.same("would on 52", x.would(1, 52, 3, 0), 52);
        x.strike(1, 51);
        Check.same("strike on 52", copy(x, 1), repeat("a", 28) + repeat("b", 12) + repeat("c", 11));
    }

    /** Each pair of strokes, and how each one is moved by the other one. */
    private static void movedByEachOther() {
        TwoScribes x = with("abcde");
        x.set(0, 2, 20, 0);
        x.set(1, 1, 21, 0);
        Check.same("moved: sets ahead", way(x, 0), "1,1,21,0");
        Check.same("moved: sets behind", way(x, 1), "1,3,20,0");
        Check.same("moved: no tie", x.count(4), 0);

        x = with("abcde");
        x.set(0, 2, 20, 0);
        x.strike(1, 1);
        Check.same("moved: strikes ahead of a set", way(x, 0), "2,1,-1,-1");
        Check.same("moved: sets behind a strike", way(x, 1), "1,1,20,0");

        x = with("abcde");
        x.set(0, 2, 20, 1);
        x.strike(1, 2);
        Check.same("moved: strikes at a set", way(x, 0), "2,3,-1,-1");
        Check.same("moved: sets at a strike", way(x, 1), "1,2,20,1");
        Check.same("moved: a strike ties with none", x.count(4), 0);

        x = with("abcde");
        x.strike(0, 3);
        x.set(1, 1, 21, 0);
        Check.same("moved: sets ahead of a strike", way(x, 0), "1,1,21,0");
        Check.same("moved: strikes behind a set", way(x, 1), "2,4,-1,-1");

        x = with("abcde");
        x.strike(0, 3);
        x.strike(1, 1);
        Check.same("moved: strikes ahead of a strike", way(x, 0), "2,1,-1,-1");
        Check.same("moved: strikes behind a strike", way(x, 1), "2,2,-1,-1");

        x = with("abcde");
        x.strike(0, 3);
        x.strike(1, 3);
        Check.same("moved: both strike the same", way(x, 0) + way(x, 1), "0,-1,-1,-10,-1,-1,-1");
        x.set(0, 0, 1, 0);
        Check.same("moved: by one that does nothing", way(x, 1), "0,-1,-1,-1 1,0,1,0");
        Check.same("moved: one that does nothing", way(x, 0), "0,-1,-1,-1");
    }

    /** A stroke goes on to the next one on the way as it was moved, and moves it so. */
    private static void movedOneByOne() {
        TwoScribes x = with("abc");
        x.strike(1, 0);
        x.set(1, 0, 10, 0);
        x.set(0, 1, 20, 1);
        Check.same("one by one: to 0", way(x, 0), "2,0,-1,-1 1,0,10,0");
        Check.same("one by one: to 1", way(x, 1), "1,1,20,1");
        Check.same("one by one: a tie on the way", x.count(4), 1);
        Check.same("one by one: page", page(x), "kubc");

        x = with("abc");
        x.strike(1, 1);
        x.strike(1, 1);
        x.strike(0, 1);
        Check.same("one by one: it does nothing from then on", way(x, 0), "0,-1,-1,-1 2,1,-1,-1");
        Check.same("one by one: it comes to the end so", way(x, 1), "0,-1,-1,-1");
        x.meet();
        Check.same("one by one: copies", copy(x, 0) + copy(x, 1), "aa");
    }

    private static void strike() {
        TwoScribes x = with("abc");
        Check.same("4: the letter", x.strike(0, 1), 1);
        Check.same("4: own copy", copy(x, 0), "ac");
        Check.same("4: other copy", copy(x, 1), "abc");
        Check.same("4: the last", x.strike(0, 1), 2);
        for (int scribe : new int[] {-1, 2, LOW, HIGH}) {
            Check.refused("4: scribe " + scribe, x, Check.INDEX, () -> x.strike(scribe, 0));
        }
        for (int place : new int[] {-1, 1, LOW, HIGH}) {
            Check.refused("4: place " + place, x, Check.INDEX, () -> x.strike(0, place));
        }
        TwoScribes y = with(repeat("ab", 13));
        for (int number = 0; number < 12; number++) {
            Check.same("4: up to 12", y.strike(1, 0), number % 2);
        }
        Check.refused("4: 12 on the way", y, Check.STATE, () -> y.strike(1, 0));
        Check.refused("4: place ahead of 12", y, Check.INDEX, () -> y.strike(1, 14));
        Check.same("4: those to this one do not count", y.strike(0, 25), 1);

        TwoScribes z = with(repeat("a", 40));
        Check.same("4: on 40 letters", z.strike(0, 39), 0);
        TwoScribes u = new TwoScribes();
        Check.refused("4: on none", u, Check.INDEX, () -> u.strike(0, 0));
    }

    private static void undoOfSet() {
        TwoScribes x = with("");
        type(x, 0, "ab");
        x.set(0, 0, 2, 0);
        Check.same("5: the last one", x.undo(0), 0);
        Check.same("5: then the one ahead", x.undo(0), 1);
        Check.same("5: copy", copy(x, 0), "a");
        Check.same("5: written", x.about(0, 1), 5);
        Check.same("5: to undo", x.about(0, 2), 1);
        Check.same("5: all on the way", way(x, 1),
                "1,0,0,0 1,1,1,0 1,0,2,0 2,0,-1,-1 2,1,-1,-1");
        x.meet();
        x.set(1, 0, 5, 0);
        x.come(0);
        Check.same("5: wherever it stands by then", x.undo(0), 1);
        Check.same("5: that of the other stays", copy(x, 0), "f");
        Check.refused("5: none left, no redo", x, Check.STATE, () -> x.undo(0));
        x.meet();
        Check.same("5: the other undoes the own", x.undo(1), 0);
    }

    private static void undoOfSetThatIsGone() {
        TwoScribes x = with("ab");
        x.strike(1, 1);
        x.come(0);
        Check.same("5: it does not stand any more", x.undo(0), -1);
        Check.same("5: nothing is written", x.about(0, 1) * 100 + x.about(1, 3), 200);
        Check.same("5: but it counts as undone", x.about(0, 2), 1);
        Check.same("5: the next goes on", x.undo(0), 0);
        Check.same("5: copy", copy(x, 0), "");

        TwoScribes y = with("ab");
        y.strike(0, 0);
        Check.same("5: the strike", y.undo(0), 0);
        Check.same("5: another letter than the one struck: b", y.undo(0), 1);
        Check.same("5: a is not the letter that was set again", y.undo(0), -1);
        Check.same("5: it stands", copy(y, 0), "a");
        Check.refused("5: none left", y, Check.STATE, () -> y.undo(0));
    }

    private static void undoOfStrike() {
        TwoScribes x = with("abcd");
        x.strike(1, 1);
        Check.same("5: at the place where it was", x.undo(1), 1);
        Check.same("5: the same letter, of the one who undoes", copy(x, 1) + authors(x, 1),
                "abcd0100");
        Check.same("5: intent 0", way(x, 0), "2,1,-1,-1 1,1,1,0");
        x.meet();
        Check.same("5: on the other copy", copy(x, 0) + authors(x, 0), "abcd0100");
        Check.same("5: not to be undone", x.about(1, 2), 0);

        x.strike(0, 2);
        x.set(0, 0, 25, 0);
        x.undo(0);
        Check.same("5: the set behind it undone ahead of it", x.undo(0), 2);
        Check.same("5: its letter all the same", copy(x, 0) + authors(x, 0), "abcd0100");

        TwoScribes y = with("abc");
        y.strike(0, 0);
        y.strike(1, 0);
        y.come(0);
        y.come(1);
        Check.same("5: whatever became of it", y.undo(0), 0);
        Check.same("5: also that of the other", y.undo(1), 0);
        y.meet();
        Check.same("5: the letter stands twice", copy(y, 0) + copy(y, 1), "aabcaabc");
    }

    private static void placeOfStrikeThatIsUndone() {
        TwoScribes x = with("abcdef");
        x.strike(0, 3);
        x.set(1, 3, 25, 1);
        x.come(0);
        Check.same("5: set at the same place", x.undoes(0), 3);
        x.set(1, 2, 24, 0);
        x.come(0);
        Check.same("5: set at a smaller place", x.undoes(0), 4);
        x.strike(1, 0);
        x.come(0);
        Check.same("5: struck at a smaller place", x.undoes(0), 3);
        x.strike(1, 5);
        x.come(0);
        Check.same("5: struck behind", copy(x, 0), "byczf");
        Check.same("5: stays", x.undoes(0), 3);
        x.strike(1, 2);
        Check.same("5: what has not come does not count", x.undoes(0), 3);
        Check.same("5: undo", x.undo(0), 3);
        Check.same("5: copy", copy(x, 0), "bycdzf");

        // Smaller than it is by then: the second set is at 2, where the place has come to by 1.
        TwoScribes y = with("abc");
        y.strike(1, 1);
        y.set(0, 0, 10, 0);
        y.come(1);
        y.set(0, 2, 11, 0);
        y.come(1);
        Check.same("5: one by one", y.undo(1), 2);

        TwoScribes z = with("abc");
        z.strike(0, 1);
        z.strike(0, 0);
        Check.same("5: own strokes count", z.undo(0), 0);
        Check.same("5: those of undoing as well", z.undo(0), 0);
        Check.same("5: copy by own", copy(z, 0), "bac");
    }

    private static void undoRefused() {
        TwoScribes x = with("a");
        for (int scribe : new int[] {-1, 2, LOW, HIGH}) {
            Check.refused("5: scribe " + scribe, x, Check.INDEX, () -> x.undo(scribe));
        }
        Check.refused("5: none of this one", x, Check.STATE, () -> x.undo(1));

        TwoScribes y = with(repeat("a", 40));
        Check.refused("5: 40 letters, one that set", y, Check.STATE, () -> y.undo(0));
        y.strike(0, 0);
        y.set(0, 0, 3, 0);
        y.strike(1, 1);
        y.come(0);
        Check.same("5: with 39", y.undo(0), 0);
        Check.same("5: with 38", y.undo(0), 0);

        TwoScribes z = with(repeat("a", 39));
        type(z, 0, "b");
        z.strike(1, 0);
        z.set(1, 0, 1, 0);
        z.set(1, 0, 1, 0);
        z.meet();
        Check.same("5: 41 on the copy", z.about(1, 0), 41);
        Check.refused("5: 41 letters", z, Check.STATE, () -> z.undo(1));

        TwoScribes u = with("a");
        u.strike(1, 0);
        u.come(0);
        type(u, 0, "bcdefghijklm");
        for (int number = 0; number < 12; number++) {
            Check.refused("5: 12 on the way", u, Check.STATE, () -> u.undo(0));
        }
        u.come(1);
        Check.same("5: 11 on the way", u.undo(0), 11);
    }

    private static void undoOfNothingWhenFull() {
        TwoScribes x = with(repeat("a", 39));
        x.set(1, 0, 1, 0);
        x.come(0);
        x.strike(0, 0);
        x.set(0, 0, 2, 0);
        x.meet();
        Check.same("5: full", x.about(1, 0), 40);
        Check.same("5: nothing would be written", x.undoes(1), -1);
        Check.refused("5: refused all the same, 40 letters", x, Check.STATE, () -> x.undo(1));

        TwoScribes y = with(repeat("a", 20));
        y.set(1, 0, 2, 0);
        y.come(0);
        y.strike(0, 0);
        y.come(1);
        Check.same("5: a letter that is gone", y.undoes(1), -1);
        for (int number = 0; number < 12; number++) {
            y.strike(1, 0);
        }
        for (int number = 0; number < 12; number++) {
            y.come(0);
            y.undo(1);
        }
        Check.same("5: down to that letter", y.undoes(1) * 100 + y.about(0, 3), -88);
        Check.refused("5: refused all the same, 12 on the way", y, Check.STATE, () -> y.undo(1));
        y.come(0);
        Check.same("5: with 11 on the way", y.undo(1), -1);
        Check.same("5: written none", y.about(0, 3), 11);
    }

    private static void come() {
        TwoScribes x = with("ab");
        x.strike(0, 0);
        x.set(0, 1, 2, 0);
        x.strike(1, 0);
        Check.same("6: nothing", x.come(1), 0);
        Check.same("6: copy as it was", copy(x, 1), "b");
        Check.same("6: a set", x.come(1), 1);
        Check.same("6: copy", copy(x, 1), "bc");
        Check.same("6: author", authors(x, 1), "00");
        Check.refused("6: none to 1", x, Check.STATE, () -> x.come(1));
        Check.same("6: nothing to 0", x.come(0), 0);
        Check.refused("6: none to 0", x, Check.STATE, () -> x.come(0));
        x.strike(1, 1);
        Check.same("6: a strike", x.come(0), 2);
        Check.same("6: copy of 0", copy(x, 0), "b");
        for (int scribe : new int[] {-1, 2, LOW, HIGH}) {
            Check.refused("6: scribe " + scribe, x, Check.INDEX, () -> x.come(scribe));
        }
    }

    private static void meet() {
        TwoScribes x = with("ab");
        Check.same("7: none", x.meet(), 0);
        x.strike(0, 0);
        x.strike(1, 0);
        x.set(1, 1, 7, 0);
        x.set(0, 0, 8, 0);
        x.set(0, 2, 9, 0);
        String page = page(x);
        Check.same("7: those that do nothing too", x.meet(), 5);
        Check.same("7: both are the page", copy(x, 0) + copy(x, 1), page + page);
        Check.same("7: none is on the way", x.count(1), 0);
        Check.same("7: that many came", x.count(6), 2 + 5);
        Check.same("7: none again", x.meet(), 0);
    }

    private static void letterAndAuthor() {
        TwoScribes x = with("az");
        x.set(1, 1, 12, 0);
        Check.same("8: letters", copy(x, 0) + copy(x, 1), "azamz");
        Check.same("9: authors", authors(x, 0) + authors(x, 1), "00010");
        for (int scribe : new int[] {-1, 2, LOW, HIGH}) {
            Check.refused("8: scribe " + scribe, x, Check.INDEX, () -> x.letter(scribe, 0));
            Check.refused("9: scribe " + scribe, x, Check.INDEX, () -> x.author(scribe, 0));
        }
        for (int place : new int[] {-1, 2, 64, LOW, HIGH}) {
            Check.refused("8: place " + place, x, Check.INDEX, () -> x.letter(0, place));
            Check.refused("9: place " + place, x, Check.INDEX, () -> x.author(0, place));
        }
        Check.refused("8: beyond 1", x, Check.INDEX, () -> x.letter(1, 3));
        Check.refused("9: beyond 1", x, Check.INDEX, () -> x.author(1, 3));
    }

    private static String aboutAll(TwoScribes x, int scribe) {
        StringBuilder text = new StringBuilder();
        for (int what = 0; what <= 6; what++) {
            text.append(what == 0 ? "" : " ").append(x.about(scribe, what));
        }
        return text.toString();
    }

    private static void about() {
        TwoScribes x = with("abc");
        x.strike(0, 0);
        x.strike(1, 0);
        x.set(1, 0, 5, 0);
        x.strike(1, 2);
        x.undo(1);
        x.come(0);
        x.come(0);
        Check.same("10: 0", aboutAll(x, 0), "3 4 4 2 2 1 2");
        Check.same("10: 1", aboutAll(x, 1), "3 4 2 1 3 0 2");
        for (int scribe : new int[] {-1, 2, LOW, HIGH}) {
            Check.refused("10: scribe " + scribe, x, Check.INDEX, () -> x.about(scribe, 0));
        }
        for (int what : new int[] {-1, 7, LOW, HIGH}) {
            Check.refused("10: what " + what, x, Check.INDEX, () -> x.about(0, what));
        }
    }

    private static void wayOfStrokes() {
        TwoScribes x = with("abc");
        x.set(0, 1, 25, 1);
        x.strike(0, 3);
        x.strike(0, 0);
        x.strike(1, 0);
        Check.same("11: to 1", way(x, 1), "1,0,25,1 2,2,-1,-1 0,-1,-1,-1");
        Check.same("11: to 0", way(x, 0), "0,-1,-1,-1");
        for (int scribe : new int[] {-1, 2, LOW, HIGH}) {
            Check.refused("11: scribe " + scribe, x, Check.INDEX, () -> x.way(scribe, 0, 0));
        }
        for (int number : new int[] {-1, 3, LOW, HIGH}) {
            Check.refused("11: number " + number, x, Check.INDEX, () -> x.way(1, number, 0));
        }
        for (int what : new int[] {-1, 4, LOW, HIGH}) {
            Check.refused("11: what " + what, x, Check.INDEX, () -> x.way(1, 0, what));
        }
        x.come(1);
        Check.same("11: the next is the first", way(x, 1), "2,2,-1,-1 0,-1,-1,-1");
        x.come(0);
        Check.refused("11: none to 0", x, Check.INDEX, () -> x.way(0, 0, 0));
    }

    private static String countAll(TwoScribes x) {
        StringBuilder text = new StringBuilder();
        for (int what = 0; what <= 6; what++) {
            text.append(what == 0 ? "" : " ").append(x.count(what));
        }
        return text.toString();
    }

    private static void count() {
        TwoScribes x = with("abc");
        x.setRule(2);
        x.set(0, 1, 3, 0);
        x.set(1, 1, 4, 0);
        x.set(1, 4, 5, 0);
        x.strike(0, 0);
        Check.same("12: count", countAll(x), "2 4 5 5 1 7 3");
        x.would(0, 1, 3, 0);
        x.undoes(0);
        Check.same("12: would and undoes count none", countAll(x), "2 4 5 5 1 7 3");
        x.meet();
        Check.same("12: met", countAll(x), "2 0 5 0 1 7 7");
        for (int what : new int[] {-1, 7, LOW, HIGH}) {
            Check.refused("12: what " + what, x, Check.INDEX, () -> x.count(what));
        }

        // Undoing the strike sets at 1, where that of the other one sets.
        TwoScribes y = with("abc");
        y.strike(0, 1);
        y.set(1, 1, 20, 0);
        y.undo(0);
        Check.same("12: ties of undoing", y.count(4), 1);
        Check.same("12: page", page(y), "abuc");
    }

    private static void first() {
        TwoScribes x = with("abc");
        Check.same("13: the same", x.first(), -1);
        x.set(0, 3, 3, 0);
        Check.same("13: one alone with a letter", x.first(), 3);
        Check.same("12: 3, one alone", x.count(3), 1);
        x.set(1, 3, 3, 0);
        Check.same("13: the same letter of another", x.first(), -1);
        Check.same("12: 3, the same letter of another", x.count(3), 0);
        x.strike(1, 1);
        Check.same("13: another letter", x.first(), 1);
        Check.same("12: 3", x.count(3), 3);
        x.strike(1, 0);
        Check.same("13: at the front", x.first(), 0);
    }

    private static void pageToCome() {
        TwoScribes x = with("abcd");
        x.set(1, 4, 20, 0);
        x.strike(1, 0);
        x.set(1, 1, 21, 0);
        x.strike(1, 3);
        x.set(0, 0, 22, 0);
        x.strike(0, 2);
        Check.same("14: page", page(x), "wvcu");
        for (int place : new int[] {-1, 4, LOW, HIGH}) {
            Check.refused("14: place " + place, x, Check.INDEX, () -> x.page(place));
        }
        x.meet();
        Check.same("14: both", copy(x, 0) + copy(x, 1), "wvcuwvcu");
        TwoScribes y = new TwoScribes();
        Check.refused("14: an empty page", y, Check.INDEX, () -> y.page(0));
    }

    private static String goesAll(TwoScribes x, int scribe) {
        StringBuilder text = new StringBuilder();
        for (int place = 0; place < x.about(scribe, 0); place++) {
            text.append(place == 0 ? "" : " ").append(x.goes(scribe, place));
        }
        return text.toString();
    }

    private static void goesAndLost() {
        TwoScribes x = with("abcd");
        x.strike(1, 1);
        x.set(1, 1, 20, 0);
        x.set(1, 4, 21, 0);
        x.strike(1, 4);
        x.strike(0, 3);
        Check.same("15: 0", goesAll(x, 0), "0 -1 2");
        Check.same("15: 1", goesAll(x, 1), "0 1 2 -1");
        Check.same("16: 0", x.lost(0), 1);
        Check.same("16: 1", x.lost(1), 1);
        x.strike(1, 2);
        TwoScribes y = with("ab");
        y.strike(1, 0);
        Check.same("15: the first place", goesAll(y, 0) + " " + goesAll(y, 1), "-1 0 0");
        Check.same("16: the first place", y.lost(0) * 10 + y.lost(1), 10);
        Check.same("15: both struck, 0", goesAll(x, 0), "0 -1 -1");
        Check.same("16: both struck, 0", x.lost(0), 2);
        x.come(1);
        Check.same("16: none", x.lost(1), 0);
        x.set(0, 0, 5, 0);
        Check.same("15: moved by a set ahead", goesAll(x, 1), "1 2");
        x.set(1, 0, 6, 0);
        Check.same("15: tie", goesAll(x, 1), "1 2 3");
        x.set(0, 4, 7, 0);
        Check.same("15: a set at its own place", goesAll(x, 1), "1 2 3");
        for (int scribe : new int[] {-1, 2, LOW, HIGH}) {
            Check.refused("15: scribe " + scribe, x, Check.INDEX, () -> x.goes(scribe, 0));
            Check.refused("16: scribe " + scribe, x, Check.INDEX, () -> x.lost(scribe));
        }
        for (int place : new int[] {-1, 3, LOW, HIGH}) {
            Check.refused("15: place " + place, x, Check.INDEX, () -> x.goes(1, place));
        }
    }

    private static void would() {
        TwoScribes x = with("abc");
        x.set(1, 1, 20, 0);
        x.strike(1, 0);
        x.set(1, 2, 21, 1);
        Check.same("17: first at a tie", x.would(0, 1, 0, 0), 0);
        Check.same("17: behind at a tie", x.would(0, 1, 0, 1), 1);
        Check.same("17: first at the second tie", x.would(0, 2, 0, 0), 2);
        Check.same("17: tie by the rule", x.would(0, 2, 25, 1), 2);
        Check.same("17: at the end", x.would(0, 3, 0, 0), 4);
        Check.same("17: none on the way to 1", x.would(1, 4, 0, 0), 4);
        Check.same("17: at the front", x.would(0, 0, 0, 1), 0);
        long before = x.digest();
        Check.same("17: as set does it", x.would(0, 1, 7, 0), 0);
        Check.same("17: nothing is changed", x.digest(), before);
        x.set(0, 1, 7, 0);
        Check.same("17: then it stands there", x.page(0), 7);
        for (int scribe : new int[] {-1, 2, LOW, HIGH}) {
            Check.refused("17: scribe", x, Check.INDEX, () -> x.would(scribe, 0, 26, 0));
        }
        for (int place : new int[] {-1, 5, LOW, HIGH}) {
            Check.refused("17: place", x, Check.INDEX, () -> x.would(0, place, 0, 2));
        }
        for (int bad : new int[] {-1, 26, LOW, HIGH}) {
            Check.refused("17: letter", x, Check.ARGUMENT, () -> x.would(0, 0, bad, 0));
        }
        for (int bad : new int[] {-1, 2, LOW, HIGH}) {
            Check.refused("17: intent", x, Check.ARGUMENT, () -> x.would(0, 0, 0, bad));
        }
    }

    private static void wouldByEachRule() {
        for (int rule = 0; rule <= 2; rule++) {
            TwoScribes x = new TwoScribes();
            x.setRule(rule);
            x.set(1, 0, 10, 0);
            Check.same("17: rule " + rule + ", smaller", x.would(0, 0, 9, 0), rule == 1 ? 1 : 0);
            Check.same("17: rule " + rule + ", same", x.would(0, 0, 10, 0), rule == 1 ? 1 : 0);
            Check.same("17: rule " + rule + ", greater", x.would(0, 0, 11, 0), rule == 0 ? 0 : 1);
        }
        TwoScribes y = new TwoScribes();
        for (int number = 0; number < 12; number++) {
            y.set(0, 0, number, 0);
        }
        Check.same("17: with 12 on the way", y.would(0, 12, 3, 1), 12);
    }

    private static void undoes() {
        TwoScribes x = with("ab");
        Check.same("18: none to undo", x.undoes(1), -1);
        Check.same("18: a set", x.undoes(0), 1);
        x.strike(0, 0);
        Check.same("18: a strike", x.undoes(0), 0);
        long before = x.digest();
        x.undoes(0);
        Check.same("18: nothing is changed", x.digest(), before);
        x.strike(1, 1);
        x.come(0);
        x.undo(0);
        Check.same("18: it would write none", x.undoes(0), -1);
        Check.same("18: as undo has it", x.undo(0), -1);
        for (int scribe : new int[] {-1, 2, LOW, HIGH}) {
            Check.refused("18: scribe", x, Check.INDEX, () -> x.undoes(scribe));
        }
        TwoScribes y = with(repeat("a", 40));
        Check.same("18: with 40 letters", y.undoes(0), 39);
        TwoScribes z = new TwoScribes();
        type(z, 1, repeat("a", 12));
        Check.same("18: with 12 on the way", z.undoes(1), 11);
    }

    private static void mean() {
        TwoScribes x = with("abc");
        Check.same("19: three", x.mean(), 3.0);
        x.strike(0, 0);
        Check.same("19: a half", x.mean(), 2.5);
        x.strike(1, 1);
        Check.same("19: two", x.mean(), 2.0);
    }

    private static void digest() {
        // Seven zeros, then for each scribe seven zeros and the -1 of undoes(); the page is empty.
        long d = 1549;
        for (int number = 1; number <= 23; number++) {
            d = d * 31 + (number == 15 || number == 23 ? -1 : 0);
        }
        Check.same("20: new", new TwoScribes().digest(), d);
        TwoScribes x = with("a");
        x.strike(0, 0);
        x.set(1, 1, 25, 1);
        long[] all = {0, 2, 1, 2, 0, 3, 1,
            0, 2, 2, 1, 0, 0, 0, 1, 0, 25, 1, 0,
            2, 1, 1, 1, 1, 0, 1, 0, 0, 25, 1, 2, 0, -1, -1, 1,
            25};
        long e = 1549;
        for (long number : all) {
            e = e * 31 + number;
        }
        Check.same("20: digest", x.digest(), e);
        Check.same("20: nothing is changed", x.digest(), e);
    }

    public static void main(String[] args) {
        newObject();
        setRule();
        strokesThatDoNothingHoldTheRule();
        rulesForTies();
        set();
        setOnFull();
        mostLetters();
        movedByEachOther();
        movedOneByOne();
        strike();
        undoOfSet();
        undoOfSetThatIsGone();
        undoOfStrike();
        placeOfStrikeThatIsUndone();
        undoRefused();
        undoOfNothingWhenFull();
        come();
        meet();
        letterAndAuthor();
        about();
        wayOfStrokes();
        count();
        first();
        pageToCome();
        goesAndLost();
        would();
        wouldByEachRule();
        undoes();
        mean();
        digest();
        Check.end();
    }
}
