/** Texts seen through windows over rows of signs; the document ../shared/DOC.md says what each call does. */
public final class Sashwords {
    private static final int WINDOWS = 6;
    private static final int FIRST_WINDOW_SIZE = 12;
    private static final int WINDOW_MOST = 40;
    private static final int BUILDER = 6;
    private static final int KEPT = 7;
    private static final int BUILDER_MOST = 80;
    private static final int SIGN_MOST = 255;
    private static final int LETTERS_MOST = 20;
    private static final int FIRST_PIPE_SIZE = 4;
    private static final int PIPE_MOST = 8;
    private static final int SENT_MOST = 160;
    private static final int NONE = -9;
    private static final int NOWHERE = -1;

    private final Window[] windows = new Window[WINDOWS];
    private final Script builder = new Script(BUILDER_MOST);
    private final Script kept = new Script(BUILDER_MOST);
    private final Pipe line = new Pipe();

    // Used again by every call that asks, so that asking makes no new rows.
    private final Window aside = new Window(0);
    private final Script draft = new Script(BUILDER_MOST);
    private final Script secondDraft = new Script(BUILDER_MOST);
    private final Seeker road = new Seeker();
    private final Seeker secondRoad = new Seeker();
    private final Borders table = new Borders();

    private int actsDone;
    private int actsRefused;
    private int knocks;
    private int rounds;

    public Sashwords() {
        for (int i = 0; i < windows.length; i++) {
            windows[i] = new Window(FIRST_WINDOW_SIZE);
        }
    }

    // The windows.

    public int allocate(int win, int size) throws IndexOutOfBoundsException, IllegalArgumentException {
        Window window = windowOf(win);
        requireWithin(size, 0, WINDOW_MOST);
        window.becomeNew(size);
        return done(window.size());
    }

    public int slice(int win, int into) throws IndexOutOfBoundsException {
        Window window = windowOf(win);
        Window target = windowOf(into);
        target.becomeSlice(window);
        return done(target.size());
    }

    public int duplicate(int win, int into) throws IndexOutOfBoundsException {
        Window window = windowOf(win);
        Window target = windowOf(into);
        target.becomeLike(window);
        return done(target.size());
    }

    public int part(int win, int from, int to, int into) throws IndexOutOfBoundsException {
        Window window = windowOf(win);
        Window target = windowOf(into);
        if (!isStretch(from, to, window.size())) {
            return refused();
        }
        target.becomePart(window, from, to);
        return done(target.size());
    }

    public int put(int win, int code) throws IndexOutOfBoundsException, IllegalArgumentException {
        Window window = windowOf(win);
        requireWithin(code, 0, SIGN_MOST);
        return window.writeSign(code) ? done(window.size()) : refused();
    }

    public int run(int win, int code, int step, int many) throws IndexOutOfBoundsException, IllegalArgumentException {
        Window window = windowOf(win);
        requireWithin(code, 0, SIGN_MOST);
        requireWithin(step, 0, SIGN_MOST);
        requireWithin(many, 0, WINDOW_MOST);
        int written = 0;
        while (written < many && window.writeSign((code + written * step) % (SIGN_MOST + 1))) {
            written++;
        }
        return done(written);
    }

    public int write(int win, int number, int many) throws IndexOutOfBoundsException, IllegalArgumentException {
        Window window = windowOf(win);
        requireLetters(number, many);
        int rest = number;
        int written = 0;
        while (written < many && window.writeSign(lowestLetter(rest))) {
            rest = rest / 3;
            written++;
        }
        return done(written);
    }

    public int get(int win) throws IndexOutOfBoundsException {
        Window window = windowOf(win);
        if (window.size() == 0) {
            return refused();
        }
        return done(window.readSign());
    }

    public String read(int win, int many) throws IndexOutOfBoundsException, IllegalArgumentException {
        Window window = windowOf(win);
        requireWithin(many, 0, WINDOW_MOST);
        StringBuilder signs = new StringBuilder();
        for (int k = 0; k < many && window.size() > 0; k++) {
            signs.append((char) window.readSign());
        }
        return done(signs.toString());
    }

    public int pour(int from, int into, int most) throws IndexOutOfBoundsException, IllegalArgumentException {
        Window window = windowOf(from);
        Window target = windowOf(into);
        require(from != into);
        requireWithin(most, 0, WINDOW_MOST);
        int went = 0;
        while (went < most && window.size() > 0 && target.size() > 0) {
            target.writeSign(window.readSign());
            went++;
        }
        return done(went);
    }

    public int mark(int win) throws IndexOutOfBoundsException {
        Window window = windowOf(win);
        window.setMark();
        return done(window.position);
    }

    public int reset(int win) throws IndexOutOfBoundsException {
        Window window = windowOf(win);
        if (window.mark == NONE) {
            return refused();
        }
        window.goToMark();
        return done(window.position);
    }

    public int rewind(int win) throws IndexOutOfBoundsException {
        Window window = windowOf(win);
        window.goTo(0, window.limit);
        return done(window.size());
    }

    public int flip(int win) throws IndexOutOfBoundsException {
        Window window = windowOf(win);
        window.goTo(0, window.position);
        return done(window.size());
    }

    public int compact(int win) throws IndexOutOfBoundsException {
        Window window = windowOf(win);
        window.moveTextToFront();
        return done(window.position);
    }

    public int open(int win) throws IndexOutOfBoundsException {
        Window window = windowOf(win);
        window.goTo(0, window.capacity);
        return done(window.size());
    }

    // The builder and the kept text.

    public int keep(int what) throws IndexOutOfBoundsException {
        kept.becomeText(sourceOf(what));
        return done(kept.size());
    }

    public int load(int what) throws IndexOutOfBoundsException {
        builder.becomeText(sourceOf(what));
        return done(builder.size());
    }

    public int build(int what) throws IndexOutOfBoundsException, IllegalStateException {
        Text source = sourceOf(what);
        requireRoom(builder.size() + source.size(), BUILDER_MOST);
        builder.append(source);
        return done(builder.size());
    }

    public int turn() {
        builder.turnRound();
        return done(builder.size());
    }

    public int change(int place, int code) throws IndexOutOfBoundsException, IllegalArgumentException {
        requirePlace(place, builder.size());
        requireWithin(code, 0, SIGN_MOST);
        return done(builder.exchange(place, code));
    }

    // The pipe.

    public int pipe(int size) throws IllegalArgumentException {
        requireWithin(size, 1, PIPE_MOST);
        int before = line.holds.size();
        line.makeNew(size);
        return done(before);
    }

    public int feed(int number, int many) throws IllegalArgumentException {
        requireLetters(number, many);
        int rest = number;
        int went = 0;
        while (went < many && line.takeIn(lowestLetter(rest))) {
            rest = rest / 3;
            went++;
        }
        return done(went);
    }

    public String drain(int many) throws IllegalArgumentException {
        requireWithin(many, 0, PIPE_MOST);
        StringBuilder signs = new StringBuilder();
        letOut(many, signs);
        return done(signs.toString());
    }

    public String pump(int what, int in, int out)
            throws IndexOutOfBoundsException, IllegalArgumentException, IllegalStateException {
        Text source = sourceOf(what);
        requireWithin(in, 1, PIPE_MOST);
        requireWithin(out, 1, PIPE_MOST);
        requireRoom(line.sent.size() + source.size(), SENT_MOST);
        StringBuilder signs = new StringBuilder();
        int next = 0;
        // Each round lets out one sign at least, so there are no more rounds than signs to come.
        for (int toCome = source.size() + line.holds.size(); toCome > 0; toCome--) {
            if (next >= source.size() && line.holds.size() == 0) {
                break;
            }
            next = next + letIn(source, next, in);
            letOut(out, signs);
            rounds++;
        }
        return done(signs.toString());
    }

    // What is asked of a window.

    public int left(int win, int how) throws IndexOutOfBoundsException, IllegalArgumentException {
        Window window = windowOf(win);
        requireWithin(how, 0, 1);
        return window.size();
    }

    public int position(int win) throws IndexOutOfBoundsException {
        return windowOf(win).position;
    }

    public int limit(int win) throws IndexOutOfBoundsException {
        return windowOf(win).limit;
    }

    public int capacity(int win) throws IndexOutOfBoundsException {
        return windowOf(win).capacity;
    }

    public int marked(int win) throws IndexOutOfBoundsException {
        return windowOf(win).mark;
    }

    public int sign(int win, int place) throws IndexOutOfBoundsException {
        return windowOf(win).at(place);
    }

    public int look(int win, int place) throws IndexOutOfBoundsException {
        return windowOf(win).atPlace(place);
    }

    public String text(int win, int how) throws IndexOutOfBoundsException, IllegalArgumentException {
        Window window = windowOf(win);
        requireWithin(how, 0, 3);
        copyText(window, how, draft);
        return spelled(draft);
    }

    public String inner(int win, int a, int b, int c, int d, int how)
            throws IndexOutOfBoundsException, IllegalArgumentException {
        Window window = windowOf(win);
        require(isStretch(a, b, window.size()) && isStretch(c, d, b - a));
        requireWithin(how, 0, 2);
        if (how == 1) {
            aside.becomePart(window, a + c, a + d);
            return spelled(aside);
        }
        aside.becomePart(window, a, b);
        if (how == 2) {
            aside.becomeSlice(aside);
        }
        aside.becomePart(aside, c, d);
        return spelled(aside);
    }

    // What is asked of the texts of all sources.

    public int first(int what, int word) throws IndexOutOfBoundsException {
        road.seek(sourceOf(what), sourceOf(word));
        return road.foundAt(0);
    }

    public int last(int what, int word) throws IndexOutOfBoundsException {
        road.seek(sourceOf(what), sourceOf(word));
        return road.foundAt(road.many - 1);
    }

    public int count(int what, int word) throws IndexOutOfBoundsException {
        road.seek(sourceOf(what), sourceOf(word));
        return road.many;
    }

    public int place(int what, int word, int which) throws IndexOutOfBoundsException, IllegalArgumentException {
        Text searched = sourceOf(what);
        Text sought = sourceOf(word);
        requireWithin(which, 0, BUILDER_MOST);
        road.seek(searched, sought);
        return road.foundAt(which);
    }

    public int border(int what) throws IndexOutOfBoundsException {
        return greatestBorder(sourceOf(what));
    }

    public String borders(int what) throws IndexOutOfBoundsException {
        Text source = sourceOf(what);
        table.measure(source);
        StringBuilder numbers = new StringBuilder();
        for (int n = 1; n <= source.size(); n++) {
            numbers.append(table.greatestOf(n)).append(' ');
        }
        return numbers.toString();
    }

    public String chain(int what) throws IndexOutOfBoundsException {
        table.measureChain(sourceOf(what));
        StringBuilder numbers = new StringBuilder();
        for (int k = 0; k < table.links; k++) {
            numbers.append(table.linkAt(k)).append(' ');
        }
        return numbers.toString();
    }

    public int differ(int one, int other) throws IndexOutOfBoundsException {
        return firstUnlike(sourceOf(one), sourceOf(other));
    }

    public int known(int word, int how) throws IndexOutOfBoundsException, IllegalArgumentException {
        Text sought = sourceOf(word);
        requireWithin(how, 0, 4);
        road.seek(how == 2 || how == 3 ? builder : kept, sought);
        if (how == 4) {
            return road.many > 0 ? 1 : 0;
        }
        return road.foundAt(how == 0 || how == 2 ? 0 : road.many - 1);
    }

    // What is asked of the pipe and of the whole.

    public String held() {
        return spelled(line.holds);
    }

    public String travelled(int which) throws IllegalArgumentException {
        requireWithin(which, 0, 1);
        return spelled(which == 0 ? line.sent : line.came);
    }

    public int house(int what) throws IllegalArgumentException {
        requireWithin(what, 0, 3);
        return counted(what);
    }

    public int knock() {
        knocks++;
        return knocks;
    }

    public boolean isSound() {
        for (int i = 0; i < windows.length; i++) {
            if (!windows[i].isOrdered() || !readsAlike(windows[i]) || !keptLiesAlike(windows[i])) {
                return false;
            }
        }
        return builderIsSearchedRightly() && builderChainIsRight() && line.isWhole();
    }

    public long digest() {
        long d = 7702;
        for (int i = 0; i < windows.length; i++) {
            d = mixedWithWindow(d, windows[i]);
        }
        d = mixedWithText(mixed(d, builder.size()), builder);
        d = mixedWithText(mixed(d, kept.size()), kept);
        d = mixed(d, greatestBorder(builder));
        d = mixed(d, greatestBorder(kept));
        road.seek(builder, kept);
        d = mixed(d, road.many);
        road.seek(kept, builder);
        d = mixed(d, road.many);
        d = mixedWithText(mixed(d, line.holds.size()), line.holds);
        d = mixed(d, line.sent.size());
        for (int what = 0; what <= 3; what++) {
            d = mixed(d, counted(what));
        }
        return mixed(d, isSound() ? 1 : 0);
    }

    // Refusals.

    private Window windowOf(int win) {
        if (win < 0 || win >= windows.length) {
            throw new IndexOutOfBoundsException("a window is 0 to 5");
        }
        return windows[win];
    }

    private Text sourceOf(int what) {
        if (what < 0 || what > KEPT) {
            throw new IndexOutOfBoundsException("a source is 0 to 7");
        }
        if (what < windows.length) {
            return windows[what];
        }
        return what == BUILDER ? builder : kept;
    }

    private static void requirePlace(int place, int length) {
        if (place < 0 || place >= length) {
            throw new IndexOutOfBoundsException("no such place in the builder");
        }
    }

    private static void require(boolean fits) {
        if (!fits) {
            throw new IllegalArgumentException("the arguments do not fit together");
        }
    }

    private static void requireWithin(int number, int least, int most) {
        if (number < least || number > most) {
            throw new IllegalArgumentException("a number is outside its bounds");
        }
    }

    private static void requireLetters(int number, int many) {
        requireWithin(number, 0, Integer.MAX_VALUE);
        requireWithin(many, 0, LETTERS_MOST);
    }

    private static void requireRoom(int needed, int most) {
        if (needed > most) {
            throw new IllegalStateException("there is no room for so many signs");
        }
    }

    private int done(int answer) {
        actsDone++;
        return answer;
    }

    private String done(String answer) {
        actsDone++;
        return answer;
    }

    private int refused() {
        actsRefused++;
        return NONE;
    }

    // Helpers.

    private static boolean isStretch(int from, int to, int length) {
        return 0 <= from && from <= to && to <= length;
    }

    private static int lowestLetter(int number) {
        return 97 + number % 3;
    }

    private int counted(int what) {
        switch (what) {
            case 0:
                return actsDone;
            case 1:
                return actsRefused;
            case 2:
                return knocks;
            default:
                return rounds;
        }
    }

    private int letIn(Text source, int from, int most) {
        int went = 0;
        while (went < most && from + went < source.size() && line.takeIn(source.at(from + went))) {
            went++;
        }
        return went;
    }

    private void letOut(int most, StringBuilder signs) {
        for (int k = 0; k < most && line.holds.size() > 0; k++) {
            signs.append((char) line.giveOut());
        }
    }

    private static String spelled(Text source) {
        StringBuilder signs = new StringBuilder();
        for (int k = 0; k < source.size(); k++) {
            signs.append((char) source.at(k));
        }
        return signs.toString();
    }

    private void copyText(Window window, int how, Script into) {
        into.clear();
        switch (how) {
            case 0:
                into.append(window);
                break;
            case 1:
                for (int p = window.position; p < window.limit; p++) {
                    into.add(window.atPlace(p));
                }
                break;
            case 2:
                aside.becomeLike(window);
                for (int rest = aside.size(); rest > 0; rest--) {
                    into.add(aside.readSign());
                }
                break;
            default:
                int half = window.size() / 2;
                aside.becomePart(window, 0, half);
                into.append(aside);
                aside.becomePart(window, half, window.size());
                into.append(aside);
        }
    }

    private static int firstUnlike(Text one, Text other) {
        int most = Math.max(one.size(), other.size());
        for (int k = 0; k < most; k++) {
            if (one.at(k) != other.at(k)) {
                return k;
            }
        }
        return NOWHERE;
    }

    private int greatestBorder(Text source) {
        table.measure(source);
        return table.greatestOf(source.size());
    }

    // Soundness.

    private boolean readsAlike(Window window) {
        copyText(window, 0, draft);
        for (int how = 1; how <= 3; how++) {
            copyText(window, how, secondDraft);
            if (firstUnlike(draft, secondDraft) != NOWHERE) {
                return false;
            }
        }
        return true;
    }

    private boolean keptLiesAlike(Window window) {
        draft.becomeText(window);
        road.seek(window, kept);
        secondRoad.seek(draft, kept);
        if (road.many != secondRoad.many) {
            return false;
        }
        for (int k = 0; k < road.many; k++) {
            if (road.foundAt(k) != secondRoad.foundAt(k)) {
                return false;
            }
        }
        return true;
    }

    private boolean builderIsSearchedRightly() {
        road.seek(builder, kept);
        int tried = 0;
        for (int p = 0; p <= builder.size(); p++) {
            if (matches(kept, 0, kept.size(), builder, p)) {
                if (road.foundAt(tried) != p) {
                    return false;
                }
                tried++;
            }
        }
        return tried == road.many;
    }

    private boolean builderChainIsRight() {
        table.measureChain(builder);
        int told = 0;
        for (int n = builder.size() - 1; n >= 0; n--) {
            if (matches(builder, 0, n, builder, builder.size() - n)) {
                if (table.linkAt(told) != n) {
                    return false;
                }
                told++;
            }
        }
        return told == table.links;
    }

    /** Whether the signs of one from its place from on, so many, are those of other from its place at on. */
    private static boolean matches(Text one, int from, int many, Text other, int at) {
        if (from + many > one.size() || at + many > other.size()) {
            return false;
        }
        for (int k = 0; k < many; k++) {
            if (one.at(from + k) != other.at(at + k)) {
                return false;
            }
        }
        return true;
    }

    // The checksum.

    private static long mixed(long d, long value) {
        return d * 31 + value;
    }

    private static long mixedWithText(long d, Text source) {
        long sum = d;
        for (int k = 0; k < source.size(); k++) {
            sum = mixed(sum, source.at(k));
        }
        return sum;
    }

    private long mixedWithWindow(long d, Window window) {
        long sum = mixed(d, window.position);
        sum = mixed(sum, window.limit);
        sum = mixed(sum, window.capacity);
        sum = mixed(sum, window.mark);
        sum = mixedWithText(sum, window);
        sum = mixed(sum, greatestBorder(window));
        road.seek(window, kept);
        return mixed(sum, road.foundAt(0));
    }

    /** A row of signs that can be asked one by one; at() tells NONE where there is no sign. */
    private abstract static class Text {
        abstract int size();

        abstract int at(int k);
    }

    /** A window over a row that other windows may lie over, too. */
    private static final class Window extends Text {
        private char[] row;
        private int start;
        private int capacity;
        private int limit;
        private int position;
        private int mark;

        Window(int size) {
            row = new char[Math.max(size, 0)];
            capacity = row.length;
            limit = row.length;
            mark = NONE;
        }

        int size() {
            return limit - position;
        }

        int at(int k) {
            return k < 0 || k >= limit - position ? NONE : atPlace(position + k);
        }

        int atPlace(int place) {
            if (place < 0 || place >= limit) {
                return NONE;
            }
            int spot = start + place;
            return spot < 0 || spot >= row.length ? NONE : row[spot];
        }

        void becomeNew(int size) {
            row = new char[Math.max(size, 0)];
            start = 0;
            capacity = row.length;
            goTo(0, capacity);
        }

        void becomeLike(Window other) {
            row = other.row;
            start = other.start;
            capacity = other.capacity;
            limit = other.limit;
            position = other.position;
            mark = other.mark;
        }

        void becomeSlice(Window other) {
            // The other may be this one: its length is taken before anything changes.
            int length = other.size();
            row = other.row;
            start = other.start + other.position;
            capacity = length;
            goTo(0, length);
        }

        void becomePart(Window other, int from, int to) {
            // The other may be this one: its position is taken before anything changes.
            int base = other.position;
            row = other.row;
            start = other.start;
            capacity = other.capacity;
            position = base + from;
            limit = base + to;
            mark = position;
        }

        void goTo(int newPosition, int newLimit) {
            position = newPosition;
            limit = newLimit;
            mark = NONE;
        }

        void setMark() {
            mark = position;
        }

        void goToMark() {
            position = mark;
        }

        int readSign() {
            int sign = at(0);
            if (size() > 0) {
                position++;
            }
            return sign;
        }

        boolean writeSign(int code) {
            if (size() <= 0) {
                return false;
            }
            store(position, code);
            position++;
            return true;
        }

        void moveTextToFront() {
            int length = size();
            for (int k = 0; k < length; k++) {
                store(k, at(k));
            }
            goTo(length, capacity);
        }

        boolean isOrdered() {
            boolean markFits = mark == NONE || (0 <= mark && mark <= position);
            return markFits && 0 <= position && position <= limit && limit <= capacity;
        }

        private void store(int place, int code) {
            int spot = start + place;
            if (spot >= 0 && spot < row.length) {
                row[spot] = (char) code;
            }
        }
    }

    /** A text with a row of its own, which it fills from the front. */
    private static final class Script extends Text {
        private final char[] signs;
        private int length;

        Script(int most) {
            signs = new char[Math.max(most, 0)];
        }

        int size() {
            return length;
        }

        int at(int k) {
            return k < 0 || k >= length || k >= signs.length ? NONE : signs[k];
        }

        boolean isFull() {
            return length >= signs.length;
        }

        void clear() {
            length = 0;
        }

        void add(int code) {
            if (length >= 0 && length < signs.length) {
                signs[length] = (char) code;
                length++;
            }
        }

        void append(Text other) {
            // The other may be this one: only what it had before the first sign came counts.
            int many = other.size();
            for (int k = 0; k < many; k++) {
                add(other.at(k));
            }
        }

        void becomeText(Text other) {
            if (other != this) {
                clear();
                append(other);
            }
        }

        int exchange(int place, int code) {
            int before = at(place);
            if (place >= 0 && place < signs.length) {
                signs[place] = (char) code;
            }
            return before;
        }

        void turnRound() {
            for (int k = 0; k < length / 2; k++) {
                int end = length - 1 - k;
                exchange(end, exchange(k, at(end)));
            }
        }

        int takeFirst() {
            int taken = at(0);
            for (int k = 1; k < length; k++) {
                exchange(k - 1, at(k));
            }
            length = Math.max(length - 1, 0);
            return taken;
        }
    }

    /** The borders of the beginnings of a text, and those of the whole of it. */
    private static final class Borders {
        private final int[] greatest = new int[BUILDER_MOST + 1];
        private final int[] chainRow = new int[BUILDER_MOST];
        private int links;

        void measure(Text text) {
            int matched = 0;
            for (int n = 1; n < text.size() && n + 1 < greatest.length; n++) {
                matched = grown(text, matched, text.at(n));
                greatest[n + 1] = matched;
            }
        }

        /** The greatest border of the first n signs; right after measure() for each n up to the length. */
        int greatestOf(int n) {
            return n < 0 || n >= greatest.length ? 0 : greatest[n];
        }

        /** How many first signs of the word end a text, if matched of them did so before the sign came. */
        int grown(Text word, int matched, int sign) {
            int n = matched;
            // A border is shorter than what it is of, so matched steps lead down to 0.
            for (int steps = matched; steps > 0 && n > 0 && word.at(n) != sign; steps--) {
                n = greatestOf(n);
            }
            return word.at(n) == sign ? n + 1 : 0;
        }

        void measureChain(Text text) {
            measure(text);
            links = 0;
            int n = text.size();
            for (int steps = text.size(); steps > 0 && n > 0; steps--) {
                n = greatestOf(n);
                if (links < chainRow.length) {
                    chainRow[links] = n;
                    links++;
                }
            }
        }

        int linkAt(int k) {
            return k < 0 || k >= links || k >= chainRow.length ? NOWHERE : chainRow[k];
        }
    }

    /** The one road by which words are sought; it holds all places that were found last. */
    private static final class Seeker {
        private final Borders borders = new Borders();
        private final int[] places = new int[BUILDER_MOST + 1];
        private int many;

        void seek(Text text, Text word) {
            many = 0;
            borders.measure(word);
            int length = word.size();
            if (length == 0) {
                note(0);
            }
            int matched = 0;
            for (int k = 0; k < text.size(); k++) {
                matched = borders.grown(word, matched, text.at(k));
                if (matched == length) {
                    note(k + 1 - length);
                }
            }
        }

        int foundAt(int which) {
            return which < 0 || which >= many || which >= places.length ? NOWHERE : places[which];
        }

        private void note(int place) {
            if (many >= 0 && many < places.length) {
                places[many] = place;
                many++;
            }
        }
    }

    /** A small pipe, with all that ever went in and came out. */
    private static final class Pipe {
        private final Script holds = new Script(PIPE_MOST);
        private final Script sent = new Script(SENT_MOST);
        private final Script came = new Script(SENT_MOST);
        private int width = FIRST_PIPE_SIZE;

        void makeNew(int size) {
            width = size;
            holds.clear();
            sent.clear();
            came.clear();
        }

        boolean takeIn(int code) {
            if (holds.size() >= width || sent.isFull()) {
                return false;
            }
            holds.add(code);
            sent.add(code);
            return true;
        }

        /** The first sign held; to be asked for only while one is held. */
        int giveOut() {
            int code = holds.takeFirst();
            came.add(code);
            return code;
        }

        boolean isWhole() {
            return came.size() + holds.size() == sent.size()
                    && matches(came, 0, came.size(), sent, 0)
                    && matches(holds, 0, holds.size(), sent, came.size());
        }
    }
}
