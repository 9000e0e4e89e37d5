/**
 * Two scribes who write one page, each on an own copy, and send their strokes to each other by
 * messengers.
 */
public final class TwoScribes {
    private static final int NOTHING = 0;
    private static final int SETS = 1;
    private static final int STRIKES = 2;

    private static final int NO_MARK = -1;

    private static final int LAST_LETTER = 25;
    private static final int LAST_RULE = 2;
    private static final int FULL_COPY = 40;
    private static final int FULL_WAY = 12;

    // A scribe sets on fewer than 40 letters, with at most 12 strokes of the other one unseen:
    // so no copy ever has more than 52 letters.
    private static final int COPY_ROOM = 64;

    // Each stroke takes a call, and an object is used for 512 calls at most.
    private static final int PAST_ROOM = 512;

    private final Scribe zero = new Scribe();
    private final Scribe one = new Scribe();
    // Used again for each stroke that is looked at on its way, so that no call makes many objects.
    private final Stroke met = new Stroke(NOTHING, -1, -1, -1, NO_MARK);
    private int rule;
    private int ties;
    private int marks;

    public TwoScribes() {
    }

    // ---- writing

    public int setRule(int rule) throws IndexOutOfBoundsException, IllegalStateException {
        if (rule < 0 || rule > LAST_RULE) {
            throw new IndexOutOfBoundsException("no such rule");
        }
        if (strokesOnWay() > 0) {
            throw new IllegalStateException("a stroke is on the way");
        }
        int before = this.rule;
        this.rule = rule;
        return before;
    }

    public int set(int scribe, int place, int letter, int intent)
            throws IndexOutOfBoundsException, IllegalArgumentException, IllegalStateException {
        checkGap(scribe, place);
        checkLetter(letter, intent);
        checkCopyNotFull(scribe);
        checkWayNotFull(scribe);
        int mark = newMark();
        write(scribe, new Stroke(SETS, place, letter, intent, mark));
        who(scribe).past.addSet(mark);
        return other(scribe).way.size();
    }

    public int strike(int scribe, int place)
            throws IndexOutOfBoundsException, IllegalStateException {
        checkPlace(scribe, place);
        checkWayNotFull(scribe);
        int letter = who(scribe).copy.letters.at(place);
        write(scribe, strikeAt(place));
        who(scribe).past.addStrike(place, letter);
        return letter;
    }

    public int undo(int scribe) throws IndexOutOfBoundsException, IllegalStateException {
        checkScribe(scribe);
        Past past = who(scribe).past;
        if (past.size() == 0) {
            throw new IllegalStateException("there is no stroke to undo");
        }
        checkCopyNotFull(scribe);
        checkWayNotFull(scribe);
        int place = placeOfUndoing(scribe);
        int letter = past.lastLetter();
        boolean struck = past.lastStruck();
        past.forgetLast();
        if (place < 0) {
            return -1;
        }
        write(scribe, struck ? new Stroke(SETS, place, letter, 0, newMark()) : strikeAt(place));
        return place;
    }

    // ---- messengers

    public int come(int scribe) throws IndexOutOfBoundsException, IllegalStateException {
        checkScribe(scribe);
        if (who(scribe).way.size() == 0) {
            throw new IllegalStateException("no stroke is on the way to this scribe");
        }
        return takeFirst(scribe);
    }

    public int meet() {
        int number = strokesOnWay();
        takeAll(0);
        takeAll(1);
        return number;
    }

    // ---- what is there

    public int letter(int scribe, int place) throws IndexOutOfBoundsException {
        checkPlace(scribe, place);
        return who(scribe).copy.letters.at(place);
    }

    public int author(int scribe, int place) throws IndexOutOfBoundsException {
        checkPlace(scribe, place);
        return who(scribe).copy.authors.at(place);
    }

    public int about(int scribe, int what) throws IndexOutOfBoundsException {
        checkScribe(scribe);
        Scribe asked = who(scribe);
        switch (what) {
            case 0:
                return asked.copy.size();
            case 1:
                return asked.wrote;
            case 2:
                return asked.past.size();
            case 3:
                return asked.way.size();
            case 4:
                return asked.came;
            case 5:
                return asked.cameIdle;
            case 6:
                return asked.copy.lettersOf(scribe);
            default:
                throw new IndexOutOfBoundsException("no such thing about a scribe");
        }
    }

    public int way(int scribe, int number, int what) throws IndexOutOfBoundsException {
        checkScribe(scribe);
        Way asked = who(scribe).way;
        if (number < 0 || number >= asked.size()) {
            throw new IndexOutOfBoundsException("no such stroke on the way");
        }
        switch (what) {
            case 0:
                return asked.kinds.at(number);
            case 1:
                return asked.places.at(number);
            case 2:
                return asked.letters.at(number);
            case 3:
                return asked.intents.at(number);
            default:
                throw new IndexOutOfBoundsException("no such thing about a stroke");
        }
    }

    public int count(int what) throws IndexOutOfBoundsException {
        switch (what) {
            case 0:
                return rule;
            case 1:
                return strokesOnWay();
            case 2:
                return lettersOfPage();
            case 3:
                return differences();
            case 4:
                return ties;
            case 5:
                return zero.wrote + one.wrote;
            case 6:
                return zero.came + one.came;
            default:
                throw new IndexOutOfBoundsException("no such count");
        }
    }

    public int first() {
        int longer = longerCopy();
        for (int place = 0; place < longer; place++) {
            if (differAt(place)) {
                return place;
            }
        }
        return -1;
    }

    // ---- what will be

    public int page(int place) throws IndexOutOfBoundsException {
        if (place < 0 || place >= lettersOfPage()) {
            throw new IndexOutOfBoundsException("no letter at that place of the page");
        }
        return letterOfPage(place);
    }

    public int goes(int scribe, int place) throws IndexOutOfBoundsException {
        checkPlace(scribe, place);
        return placeOnPage(scribe, place);
    }

    public int lost(int scribe) throws IndexOutOfBoundsException {
        checkScribe(scribe);
        int size = who(scribe).copy.size();
        int number = 0;
        for (int place = 0; place < size; place++) {
            if (placeOnPage(scribe, place) < 0) {
                number++;
            }
        }
        return number;
    }

    public int would(int scribe, int place, int letter, int intent)
            throws IndexOutOfBoundsException, IllegalArgumentException {
        checkGap(scribe, place);
        checkLetter(letter, intent);
        Stroke own = new Stroke(SETS, place, letter, intent, NO_MARK);
        Way way = who(scribe).way;
        int size = way.size();
        for (int number = 0; number < size; number++) {
            way.read(number, met);
            own.moveBy(met.kind, met.place, goesFirst(scribe, own, met));
        }
        // It would be the last stroke to come to the other copy, so it stands where it comes.
        return own.place;
    }

    public int undoes(int scribe) throws IndexOutOfBoundsException {
        checkScribe(scribe);
        return placeOfUndoing(scribe);
    }

    public double mean() {
        return (zero.copy.size() + one.copy.size()) / 2.0;
    }

    public long digest() {
        long sum = 1549L;
        for (int what = 0; what <= 6; what++) {
            sum = sum * 31 + count(what);
        }
        sum = digestOfScribe(sum, 0);
        sum = digestOfScribe(sum, 1);
        int letters = lettersOfPage();
        for (int place = 0; place < letters; place++) {
            sum = sum * 31 + letterOfPage(place);
        }
        return sum;
    }

    // ---- what a call asks for

    private static void checkScribe(int scribe) {
        if (scribe < 0 || scribe > 1) {
            throw new IndexOutOfBoundsException("no such scribe");
        }
    }

    private void checkPlace(int scribe, int place) {
        checkScribe(scribe);
        if (place < 0 || place >= who(scribe).copy.size()) {
            throw new IndexOutOfBoundsException("no letter at that place");
        }
    }

    private void checkGap(int scribe, int place) {
        checkScribe(scribe);
        if (place < 0 || place > who(scribe).copy.size()) {
            throw new IndexOutOfBoundsException("no such place");
        }
    }

    private static void checkLetter(int letter, int intent) {
        if (letter < 0 || letter > LAST_LETTER) {
            throw new IllegalArgumentException("no such letter");
        }
        if (intent < 0 || intent > 1) {
            throw new IllegalArgumentException("no such intent");
        }
    }

    private void checkCopyNotFull(int scribe) {
        if (who(scribe).copy.size() >= FULL_COPY) {
            throw new IllegalStateException("the copy is full");
        }
    }

    private void checkWayNotFull(int scribe) {
        if (other(scribe).way.size() >= FULL_WAY) {
            throw new IllegalStateException("too many strokes are on the way");
        }
    }

    // ---- the scribes and their strokes

    private Scribe who(int scribe) {
        return scribe == 0 ? zero : one;
    }

    private Scribe other(int scribe) {
        return scribe == 0 ? one : zero;
    }

    private int newMark() {
        marks++;
        return marks;
    }

    private static Stroke strikeAt(int place) {
        return new Stroke(STRIKES, place, -1, -1, NO_MARK);
    }

    private void write(int scribe, Stroke own) {
        Scribe writer = who(scribe);
        writer.doStroke(own, scribe);
        writer.wrote++;
        int size = writer.way.size();
        for (int number = 0; number < size; number++) {
            writer.way.read(number, met);
            meetOne(scribe, own);
            writer.way.move(number, met);
        }
        other(scribe).way.append(own);
    }

    private void meetOne(int scribe, Stroke own) {
        if (own.kind == SETS && met.kind == SETS && own.place == met.place) {
            ties++;
        }
        boolean ownFirst = goesFirst(scribe, own, met);
        int kindBefore = own.kind;
        int placeBefore = own.place;
        own.moveBy(met.kind, met.place, ownFirst);
        met.moveBy(kindBefore, placeBefore, !ownFirst);
    }

    /** Whether of two strokes that set at the same place the one of this scribe goes first. */
    private boolean goesFirst(int scribe, Stroke own, Stroke others) {
        if (own.intent != others.intent) {
            return own.intent == 0;
        }
        if (rule == 2 && own.letter != others.letter) {
            return own.letter < others.letter;
        }
        return scribe == (rule == 1 ? 1 : 0);
    }

    private int takeFirst(int scribe) {
        Scribe taker = who(scribe);
        taker.way.read(0, met);
        taker.way.dropFirst();
        taker.doStroke(met, 1 - scribe);
        taker.came++;
        if (met.kind == NOTHING) {
            taker.cameIdle++;
        }
        return met.kind;
    }

    private void takeAll(int scribe) {
        for (int left = who(scribe).way.size(); left > 0; left--) {
            takeFirst(scribe);
        }
    }

    private int placeOfUndoing(int scribe) {
        Scribe writer = who(scribe);
        if (writer.past.size() == 0) {
            return -1;
        }
        if (writer.past.lastStruck()) {
            return writer.past.lastPlace();
        }
        return writer.copy.placeOf(writer.past.lastMark());
    }

    // ---- both copies and the page

    private int strokesOnWay() {
        return zero.way.size() + one.way.size();
    }

    private int longerCopy() {
        return Math.max(zero.copy.size(), one.copy.size());
    }

    private boolean differAt(int place) {
        return zero.copy.letters.at(place) != one.copy.letters.at(place);
    }

    private int differences() {
        int longer = longerCopy();
        int number = 0;
        for (int place = 0; place < longer; place++) {
            if (differAt(place)) {
                number++;
            }
        }
        return number;
    }

    private int lettersOfPage() {
        return zero.copy.size() + zero.way.growth();
    }

    /** Follows a place of the page back, from the last stroke to the copy of the scribe 0. */
    private int letterOfPage(int place) {
        Way way = zero.way;
        int then = place;
        for (int number = way.size() - 1; number >= 0; number--) {
            int kind = way.kinds.at(number);
            int at = way.places.at(number);
            if (kind == SETS && at == then) {
                return way.letters.at(number);
            }
            if (kind == SETS && at < then) {
                then--;
            } else if (kind == STRIKES && at <= then) {
                then++;
            }
        }
        return zero.copy.letters.at(then);
    }

    /** Where the letter at a place of a copy will stand on the page, -1 if it will be struck. */
    private int placeOnPage(int scribe, int place) {
        Way way = who(scribe).way;
        int size = way.size();
        int now = place;
        for (int number = 0; number < size; number++) {
            int kind = way.kinds.at(number);
            int at = way.places.at(number);
            if (kind == STRIKES && at == now) {
                return -1;
            }
            if (kind == SETS && at <= now) {
                now++;
            } else if (kind == STRIKES && at < now) {
                now--;
            }
        }
        return now;
    }

    private long digestOfScribe(long before, int scribe) {
        long sum = before;
        for (int what = 0; what <= 6; what++) {
            sum = sum * 31 + about(scribe, what);
        }
        int letters = about(scribe, 0);
        for (int place = 0; place < letters; place++) {
            sum = sum * 31 + letter(scribe, place);
            sum = sum * 31 + author(scribe, place);
        }
        int strokes = about(scribe, 3);
        for (int number = 0; number < strokes; number++) {
            for (int what = 0; what <= 3; what++) {
                sum = sum * 31 + way(scribe, number, what);
            }
        }
        return sum * 31 + placeOfUndoing(scribe);
    }

    /** Numbers in a row of a fixed room: outside it nothing is read but -1, and nothing written. */
    private static final class Row {
        private final int[] numbers;
        private int size;

        private Row(int room) {
            numbers = new int[room < 0 ? 0 : room];
        }

        private boolean has(int index) {
            return index >= 0 && index < size && index < numbers.length;
        }

        private int at(int index) {
            return has(index) ? numbers[index] : -1;
        }

        private void change(int index, int number) {
            if (has(index)) {
                numbers[index] = number;
            }
        }

        private void insert(int index, int number) {
            if (index < 0 || index > size || size >= numbers.length) {
                return;
            }
            for (int i = size; i > index; i--) {
                numbers[i] = numbers[i - 1];
            }
            numbers[index] = number;
            size++;
        }

        private void append(int number) {
            insert(size, number);
        }

        private void remove(int index) {
            if (!has(index)) {
                return;
            }
            for (int i = index + 1; i < size && i < numbers.length; i++) {
                numbers[i - 1] = numbers[i];
            }
            size--;
        }
    }

    /** A stroke; its place is -1 if it does nothing, its letter and intent are -1 if not set. */
    private static final class Stroke {
        private int kind;
        private int place;
        private int letter;
        private int intent;
        // Tells the letter that is set from all others on the own copy, for undoing; a scribe undoes
        // own strokes alone, so it is not sent, and the letters of the other one have none.
        private final int mark;

        private Stroke(int kind, int place, int letter, int intent, int mark) {
            this.kind = kind;
            this.place = place;
            this.letter = letter;
            this.intent = intent;
            this.mark = mark;
        }

        private void moveBy(int byKind, int byPlace, boolean first) {
            if (kind == NOTHING) {
                return;
            }
            if (byKind == SETS) {
                moveBySet(byPlace, first);
            } else if (byKind == STRIKES) {
                moveByStrike(byPlace);
            }
        }

        private void moveBySet(int byPlace, boolean first) {
            boolean stays = place < byPlace || (kind == SETS && place == byPlace && first);
            if (!stays) {
                place++;
            }
        }

        private void moveByStrike(int byPlace) {
            if (place > byPlace) {
                place--;
            } else if (place == byPlace && kind == STRIKES) {
                kind = NOTHING;
                place = -1;
            }
        }
    }

    /** The strokes on the way to a scribe, the first one to come ahead. */
    private static final class Way {
        private final Row kinds = new Row(FULL_WAY);
        private final Row places = new Row(FULL_WAY);
        private final Row letters = new Row(FULL_WAY);
        private final Row intents = new Row(FULL_WAY);

        private int size() {
            return kinds.size;
        }

        private void read(int number, Stroke into) {
            into.kind = kinds.at(number);
            into.place = places.at(number);
            into.letter = letters.at(number);
            into.intent = intents.at(number);
        }

        private void append(Stroke stroke) {
            kinds.append(stroke.kind);
            places.append(stroke.place);
            letters.append(stroke.letter);
            intents.append(stroke.intent);
        }

        private void move(int number, Stroke moved) {
            kinds.change(number, moved.kind);
            places.change(number, moved.place);
        }

        private void dropFirst() {
            kinds.remove(0);
            places.remove(0);
            letters.remove(0);
            intents.remove(0);
        }

        /** How many letters more a copy has when all have come. */
        private int growth() {
            int more = 0;
            for (int number = 0; number < kinds.size; number++) {
                int kind = kinds.at(number);
                if (kind == SETS) {
                    more++;
                } else if (kind == STRIKES) {
                    more--;
                }
            }
            return more;
        }
    }

    /** The copy of a scribe. */
    private static final class Copy {
        private final Row letters = new Row(COPY_ROOM);
        private final Row authors = new Row(COPY_ROOM);
        private final Row marks = new Row(COPY_ROOM);

        private int size() {
            return letters.size;
        }

        private void insert(int place, int letter, int author, int mark) {
            letters.insert(place, letter);
            authors.insert(place, author);
            marks.insert(place, mark);
        }

        private void remove(int place) {
            letters.remove(place);
            authors.remove(place);
            marks.remove(place);
        }

        private int placeOf(int mark) {
            for (int place = 0; place < marks.size; place++) {
                if (marks.at(place) == mark) {
                    return place;
                }
            }
            return -1;
        }

        private int lettersOf(int author) {
            int number = 0;
            for (int place = 0; place < authors.size; place++) {
                if (authors.at(place) == author) {
                    number++;
                }
            }
            return number;
        }
    }

    /**
     * The strokes of a scribe that can be undone still. One that set has its mark, and -1 for place
     * and letter; one that struck has the place where its letter was and the letter, and no mark.
     */
    private static final class Past {
        private final Row places = new Row(PAST_ROOM);
        private final Row letters = new Row(PAST_ROOM);
        private final Row marks = new Row(PAST_ROOM);

        private int size() {
            return places.size;
        }

        private void addSet(int mark) {
            places.append(-1);
            letters.append(-1);
            marks.append(mark);
        }

        private void addStrike(int place, int letter) {
            places.append(place);
            letters.append(letter);
            marks.append(NO_MARK);
        }

        private boolean lastStruck() {
            return places.at(places.size - 1) >= 0;
        }

        private int lastPlace() {
            return places.at(places.size - 1);
        }

        private int lastLetter() {
            return letters.at(letters.size - 1);
        }

        private int lastMark() {
            return marks.at(marks.size - 1);
        }

        private void forgetLast() {
            places.remove(places.size - 1);
            letters.remove(letters.size - 1);
            marks.remove(marks.size - 1);
        }

        /** Moves the places behind one at which a letter was set (by 1) or struck (by -1). */
        private void shiftBehind(int place, int by) {
            for (int number = 0; number < places.size; number++) {
                int was = places.at(number);
                if (was > place) {
                    places.change(number, was + by);
                }
            }
        }
    }

    /** A scribe, with the own copy and the strokes on the way to this one. */
    private static final class Scribe {
        private final Copy copy = new Copy();
        private final Way way = new Way();
        private final Past past = new Past();
        private int wrote;
        private int came;
        private int cameIdle;

        private void doStroke(Stroke stroke, int author) {
            if (stroke.kind == SETS) {
                copy.insert(stroke.place, stroke.letter, author, stroke.mark);
                past.shiftBehind(stroke.place, 1);
            } else if (stroke.kind == STRIKES) {
                copy.remove(stroke.place);
                past.shiftBehind(stroke.place, -1);
            }
        }
    }
}
