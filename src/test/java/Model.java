import java.util.ArrayList;
import java.util.List;

/**
 * The document once more, built another way than the class: letters are objects, strokes never
 * change, and what will be is found by letting it happen on a copy of the whole model.
 */
final class Model {
    static final class Letter {
        final int sign;
        final int author;

        Letter(int sign, int author) {
            this.sign = sign;
            this.author = author;
        }
    }

    /** What is done to a copy: 0 nothing, 1 sets, 2 strikes. */
    static final class Stroke {
        final int kind;
        final int place;
        final int intent;
        final int writer;
        final Letter letter;

        Stroke(int kind, int place, int intent, int writer, Letter letter) {
            this.kind = kind;
            this.place = place;
            this.intent = intent;
            this.writer = writer;
            this.letter = letter;
        }

        Stroke at(int other) {
            return new Stroke(kind, other, intent, writer, letter);
        }
    }

    /** An own stroke that can be undone: when it was done, as the copy's own history counts. */
    static final class Done {
        final Stroke stroke;
        final Letter touched;
        final int moment;

        Done(Stroke stroke, Letter touched, int moment) {
            this.stroke = stroke;
            this.touched = touched;
            this.moment = moment;
        }
    }

    static final class Side {
        final List<Letter> copy = new ArrayList<>();
        final List<Stroke> way = new ArrayList<>();
        final List<Stroke> history = new ArrayList<>();
        final List<Done> undoable = new ArrayList<>();
        int wrote;
        int came;
        int idle;
    }

    final Side[] sides = {new Side(), new Side()};
    int rule;
    int ties;

    Model twin() {
        Model twin = new Model();
        twin.rule = rule;
        twin.ties = ties;
        for (int s = 0; s < 2; s++) {
            Side from = sides[s];
            Side to = twin.sides[s];
            to.copy.addAll(from.copy);
            to.way.addAll(from.way);
            to.history.addAll(from.history);
            to.undoable.addAll(from.undoable);
            to.wrote = from.wrote;
            to.came = from.came;
            to.idle = from.idle;
        }
        return twin;
    }

    private static void index(boolean fine) {
        if (!fine) {
            throw new IndexOutOfBoundsException();
        }
    }

    private static void argument(boolean fine) {
        if (!fine) {
            throw new IllegalArgumentException();
        }
    }

    private static void state(boolean fine) {
        if (!fine) {
            throw new IllegalStateException();
        }
    }

    private static boolean in(int x, int from, int to) {
        return from <= x && x <= to;
    }

    private Side side(int scribe) {
        index(in(scribe, 0, 1));
        return sides[scribe];
    }

    int setRule(int next) {
        index(in(next, 0, 2));
        state(sides[0].way.isEmpty() && sides[1].way.isEmpty());
        int old = rule;
        rule = next;
        return old;
    }

    int set(int scribe, int place, int letter, int intent) {
        index(in(place, 0, side(scribe).copy.size()));
        argument(in(letter, 0, 25) && in(intent, 0, 1));
        state(sides[scribe].copy.size() < 40 && sides[1 - scribe].way.size() < 12);
        Letter set = new Letter(letter, scribe);
        Stroke stroke = new Stroke(1, place, intent, scribe, set);
        write(stroke);
        sides[scribe].undoable.add(new Done(stroke, set, sides[scribe].history.size()));
        return sides[1 - scribe].way.size();
    }

    int strike(int scribe, int place) {
        index(in(place, 0, side(scribe).copy.size() - 1));
        state(sides[1 - scribe].way.size() < 12);
        Letter struck = sides[scribe].copy.get(place);
        Stroke stroke = new Stroke(2, place, -1, scribe, null);
        write(stroke);
        sides[scribe].undoable.add(new Done(stroke, struck, sides[scribe].history.size()));
        return struck.sign;
    }

    int undo(int scribe) {
        Side side = side(scribe);
        state(!side.undoable.isEmpty());
        state(side.copy.size() < 40 && sides[1 - scribe].way.size() < 12);
        return undoFreely(scribe);
    }

    private int undoFreely(int scribe) {
        Side side = sides[scribe];
        Done done = side.undoable.remove(side.undoable.size() - 1);
        if (done.stroke.kind == 1) {
            int place = side.copy.indexOf(done.touched);
            if (place >= 0) {
                write(new Stroke(2, place, -1, scribe, null));
            }
            return place;
        }
        int place = done.stroke.place;
        for (Stroke since : side.history.subList(done.moment, side.history.size())) {
            if (since.kind != 0 && since.place < place) {
                place += since.kind == 1 ? 1 : -1;
            }
        }
        write(new Stroke(1, place, 0, scribe, new Letter(done.touched.sign, scribe)));
        return place;
    }

    int undoes(int scribe) {
        return side(scribe).undoable.isEmpty() ? -1 : twin().undoFreely(scribe);
    }

    private void doOn(Side side, Stroke stroke) {
        if (stroke.kind == 1) {
            side.copy.add(stroke.place, stroke.letter);
        } else if (stroke.kind == 2) {
            side.copy.remove(stroke.place);
        }
        side.history.add(stroke);
    }

    private void write(Stroke stroke) {
        Side side = sides[stroke.writer];
        doOn(side, stroke);
        side.wrote++;
        Stroke own = stroke;
        for (int i = 0; i < side.way.size(); i++) {
            Stroke met = side.way.get(i);
            if (own.kind == 1 && met.kind == 1 && own.place == met.place) {
                ties++;
            }
            side.way.set(i, moved(met, own));
            own = moved(own, met);
        }
        sides[1 - stroke.writer].way.add(own);
    }

    private Stroke moved(Stroke x, Stroke by) {
        switch (x.kind * 10 + by.kind) {
            case 11:
                return x.place < by.place || x.place == by.place && before(x, by)
                        ? x : x.at(x.place + 1);
            case 12:
                return x.place <= by.place ? x : x.at(x.place - 1);
            case 21:
                return x.place < by.place ? x : x.at(x.place + 1);
            case 22:
                if (x.place == by.place) {
                    return new Stroke(0, -1, -1, x.writer, null);
                }
                return x.place < by.place ? x : x.at(x.place - 1);
            default:
                return x;
        }
    }

    private boolean before(Stroke x, Stroke y) {
        if (x.intent != y.intent) {
            return x.intent < y.intent;
        }
        switch (rule) {
            case 0:
                return x.writer == 0;
            case 1:
                return x.writer == 1;
            default:
                return x.letter.sign != y.letter.sign
                        ? x.letter.sign < y.letter.sign : x.writer == 0;
        }
    }

    int come(int scribe) {
        Side side = side(scribe);
        state(!side.way.isEmpty());
        Stroke stroke = side.way.remove(0);
        doOn(side, stroke);
        side.came++;
        if (stroke.kind == 0) {
            side.idle++;
        }
        return stroke.kind;
    }

    int meet() {
        int number = 0;
        for (int s = 1; s >= 0; s--) {
            for (; !sides[s].way.isEmpty(); number++) {
                come(s);
            }
        }
        return number;
    }

    int letter(int scribe, int place) {
        index(in(place, 0, side(scribe).copy.size() - 1));
        return sides[scribe].copy.get(place).sign;
    }

    int author(int scribe, int place) {
        index(in(place, 0, side(scribe).copy.size() - 1));
        return sides[scribe].copy.get(place).author;
    }

    int about(int scribe, int what) {
        Side side = side(scribe);
        index(in(what, 0, 6));
        int own = 0;
        for (Letter letter : side.copy) {
            own += letter.author == scribe ? 1 : 0;
        }
        int[] all = {side.copy.size(), side.wrote, side.undoable.size(), side.way.size(),
            side.came, side.idle, own};
        return all[what];
    }

    int way(int scribe, int number, int what) {
        Side side = side(scribe);
        index(in(number, 0, side.way.size() - 1));
        index(in(what, 0, 3));
        Stroke stroke = side.way.get(number);
        boolean sets = stroke.kind == 1;
        int[] all = {stroke.kind, stroke.kind == 0 ? -1 : stroke.place,
            sets ? stroke.letter.sign : -1, sets ? stroke.intent : -1};
        return all[what];
    }

    int count(int what) {
        index(in(what, 0, 6));
        int[] all = {rule, sides[0].way.size() + sides[1].way.size(), pageLetters().size(),
            differing().size(), ties, sides[0].wrote + sides[1].wrote,
            sides[0].came + sides[1].came};
        return all[what];
    }

    private List<Integer> differing() {
        List<Integer> places = new ArrayList<>();
        List<Letter> a = sides[0].copy;
        List<Letter> b = sides[1].copy;
        for (int i = 0; i < a.size() || i < b.size(); i++) {
            if (i >= a.size() || i >= b.size() || a.get(i).sign != b.get(i).sign) {
                places.add(i);
            }
        }
        return places;
    }

    int first() {
        List<Integer> places = differing();
        return places.isEmpty() ? -1 : places.get(0);
    }

    /** The document says that the page is the same for both: this looks whether it is. */
    private List<Letter> pageLetters() {
        Model later = twin();
        later.meet();
        if (!later.sides[0].copy.equals(later.sides[1].copy)) {
            throw new AssertionError("the page is not the same for both");
        }
        return later.sides[0].copy;
    }

    int page(int place) {
        List<Letter> page = pageLetters();
        index(in(place, 0, page.size() - 1));
        return page.get(place).sign;
    }

    int goes(int scribe, int place) {
        index(in(place, 0, side(scribe).copy.size() - 1));
        return pageLetters().indexOf(sides[scribe].copy.get(place));
    }

    int lost(int scribe) {
        List<Letter> left = new ArrayList<>(side(scribe).copy);
        left.removeAll(pageLetters());
        return left.size();
    }

    int would(int scribe, int place, int letter, int intent) {
        index(in(place, 0, side(scribe).copy.size()));
        argument(in(letter, 0, 25) && in(intent, 0, 1));
        Model later = twin();
        Letter set = new Letter(letter, scribe);
        later.write(new Stroke(1, place, intent, scribe, set));
        return later.pageLetters().indexOf(set);
    }

    double mean() {
        return (sides[0].copy.size() + sides[1].copy.size()) * 0.5;
    }

    long digest() {
        List<Integer> all = new ArrayList<>();
        for (int what = 0; what < 7; what++) {
            all.add(count(what));
        }
        for (int s = 0; s < 2; s++) {
            for (int what = 0; what < 7; what++) {
                all.add(about(s, what));
            }
            for (Letter letter : sides[s].copy) {
                all.add(letter.sign);
                all.add(letter.author);
            }
            for (int n = 0; n < sides[s].way.size(); n++) {
                for (int what = 0; what < 4; what++) {
                    all.add(way(s, n, what));
                }
            }
            all.add(undoes(s));
        }
        for (Letter letter : pageLetters()) {
            all.add(letter.sign);
        }
        long d = 1549;
        for (int x : all) {
            d = d * 31 + x;
        }
        return d;
    }
}
