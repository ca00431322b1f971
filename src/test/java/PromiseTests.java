/**
 * For each promise of the document ordinary inputs, the edges that it names, and wrong inputs. No object gets more than
 * 512 calls, as the document lets it have no more.
 */
public final class PromiseTests {
    private static final String BOUNDS = "throws.IndexOutOfBoundsException";
    private static final String ARGUMENT = "throws.IllegalArgumentException";
    private static final String STATE = "throws.IllegalStateException";
    private static final int[] NO_WINDOWS = {-1, 6, 7, 8, Integer.MIN_VALUE, Integer.MAX_VALUE};
    private static final int[] NO_SOURCES = {-1, 8, 9, Integer.MIN_VALUE, Integer.MAX_VALUE};

    private static int wrong = 0;
    private static int checks = 0;
    private static int promise = 0;
    private static Sashwords x;

    private interface Call {
        Object make();
    }

    /** Makes a call; an exception is told by its exact class, so that one of the machine's own is never right. */
    private static Object answer(Call call) {
        try {
            return call.make();
        } catch (RuntimeException e) {
            return "throws." + e.getClass().getSimpleName();
        }
    }

    private static void due(Object want, Object got) {
        checks++;
        if (!want.equals(got)) {
            wrong++;
            StackTraceElement[] calls = new Throwable().getStackTrace();
            int at = 1;
            while (calls[at].getMethodName().startsWith("due") || calls[at].getMethodName().startsWith("refuse")
                    || calls[at].getMethodName().startsWith("ask")) {
                at++;
            }
            System.out.println("promise " + promise + ", line " + calls[at].getLineNumber() + ": answered " + got
                    + ", due is " + want);
        }
    }

    private static void dueCall(Object want, Call call) {
        due(want, answer(call));
    }

    /** An answer that changes nothing: an ask, or a call that throws. */
    private static void ask(Object want, Call call) {
        long before = x.digest();
        due(want, answer(call));
        due(before, x.digest());
    }

    private static void refuseBounds(Call call) {
        ask(BOUNDS, call);
    }

    private static void refuseArgument(Call call) {
        ask(ARGUMENT, call);
    }

    private static void refuseState(Call call) {
        ask(STATE, call);
    }

    /** An act that tells -9: it adds one refusal and changes nothing else. */
    private static void refuseNine(Call call) {
        int acts = x.house(0);
        int refusals = x.house(1);
        String before = state();
        due(-9, answer(call));
        due(acts, x.house(0));
        due(refusals + 1, x.house(1));
        due(before, state());
    }

    /** An act that is done: it adds one to what was done. */
    private static void dueAct(Object want, Call call) {
        int acts = x.house(0);
        int refusals = x.house(1);
        due(want, answer(call));
        due(acts + 1, x.house(0));
        due(refusals, x.house(1));
    }

    /** What a refused act must leave as it is; the edge tests look deeper, on objects made for each call. */
    private static String state() {
        StringBuilder all = new StringBuilder(x.held());
        for (int w = 0; w < 6; w++) {
            all.append(';').append(x.position(w)).append(' ').append(x.marked(w)).append(' ').append(x.text(w, 0));
        }
        return all.toString();
    }

    private static String window(int w) {
        return x.position(w) + " " + x.limit(w) + " " + x.capacity(w) + " " + x.marked(w);
    }

    /** The signs of a source, by way of the pipe, which is new for it. */
    private static String spell(int what) {
        x.pipe(8);
        return x.pump(what, 8, 8);
    }

    private static void fresh(int number) {
        promise = number;
        x = new Sashwords();
    }

    /** The window becomes a new one that has just this text and stands at its start. */
    private static void fill(int win, String text) {
        x.allocate(win, text.length());
        for (int k = 0; k < text.length(); k++) {
            x.put(win, text.charAt(k));
        }
        x.rewind(win);
    }

    private static String repeat(String text, int many) {
        return text.repeat(many);
    }

    private static void newObject() {
        fresh(1);
        for (int w = 0; w < 6; w++) {
            due("0 12 12 -9", window(w));
            due(12, x.left(w, 0));
            due(repeat("\0", 12), x.text(w, 0));
        }
        for (int w = 0; w < 6; w++) {
            due(11, x.put(w, 65 + w));
        }
        for (int w = 0; w < 6; w++) {
            due(65 + w, x.look(w, 0));
            due(0, x.look(w, 1));
        }
        fresh(1);
        due(-1, x.differ(6, 7));
        due("", x.borders(6));
        due("", x.borders(7));
        due(1, x.count(6, 7));
        due("", x.held());
        due("", x.travelled(0));
        due("", x.travelled(1));
        due(0, x.house(0));
        due(0, x.house(1));
        due(0, x.house(2));
        due(0, x.house(3));
        due(4, x.feed(0, 20));
        due(0, x.feed(0, 1));
        Sashwords other = new Sashwords();
        other.put(0, 9);
        due(0, x.look(0, 0));
        due(12, x.left(0, 0));
    }

    private static void allocateWindow() {
        fresh(2);
        dueAct(40, () -> x.allocate(0, 40));
        due("0 40 40 -9", window(0));
        due(repeat("\0", 40), x.text(0, 0));
        dueAct(0, () -> x.allocate(5, 0));
        due("0 0 0 -9", window(5));
        dueAct(1, () -> x.allocate(1, 1));
        due("0 1 1 -9", window(1));
        fill(2, "hello");
        x.get(2);
        x.mark(2);
        x.duplicate(2, 3);
        dueAct(5, () -> x.allocate(2, 5));
        due("0 5 5 -9", window(2));
        due(repeat("\0", 5), x.text(2, 0));
        due("1 5 5 1", window(3));
        due("ello", x.text(3, 0));
        x.put(2, 90);
        due(104, x.look(3, 0));
        dueAct(7, () -> x.allocate(2, 7));
        due(0, x.look(2, 0));
        refuseArgument(() -> x.allocate(0, 41));
        refuseArgument(() -> x.allocate(0, -1));
        refuseArgument(() -> x.allocate(0, Integer.MAX_VALUE));
        refuseArgument(() -> x.allocate(0, Integer.MIN_VALUE));
        for (int w : NO_WINDOWS) {
            refuseBounds(() -> x.allocate(w, 5));
            refuseBounds(() -> x.allocate(w, 41));
        }
    }

    private static void sliceWindow() {
        fresh(3);
        fill(0, "abcdefgh");
        x.read(0, 3);
        x.mark(0);
        dueAct(5, () -> x.slice(0, 1));
        due("0 5 5 -9", window(1));
        due("3 8 8 3", window(0));
        due("defgh", x.text(1, 0));
        x.get(1);
        dueAct(4, () -> x.slice(1, 2));
        due("efgh", x.text(2, 0));
        x.put(2, 69);
        due("dEfgh", x.text(0, 0));
        due(69, x.look(1, 1));
        x.put(0, 68);
        due(68, x.look(1, 0));
        // A slice ends at the limit, not at the capacity, and of itself it counts from what it was.
        fill(3, "0123456789");
        x.part(3, 2, 7, 4);
        x.get(4);
        dueAct(4, () -> x.slice(4, 4));
        due("0 4 4 -9", window(4));
        due("3456", x.text(4, 0));
        due(4, x.open(4));
        x.read(4, 40);
        dueAct(0, () -> x.slice(4, 5));
        due("0 0 0 -9", window(5));
        for (int w : NO_WINDOWS) {
            refuseBounds(() -> x.slice(w, 0));
            refuseBounds(() -> x.slice(0, w));
        }
    }

    private static void duplicateWindow() {
        fresh(4);
        fill(0, "abcdefgh");
        x.read(0, 2);
        x.mark(0);
        x.read(0, 3);
        dueAct(3, () -> x.duplicate(0, 1));
        due("5 8 8 2", window(1));
        due("fgh", x.text(1, 0));
        due(2, x.reset(1));
        due("5 8 8 2", window(0));
        x.put(1, 67);
        due(67, x.look(0, 2));
        x.flip(0);
        due("3 8 8 2", window(1));
        dueAct(5, () -> x.duplicate(0, 2));
        due("0 5 8 -9", window(2));
        x.slice(1, 3);
        x.get(3);
        dueAct(4, () -> x.duplicate(3, 4));
        due("1 5 5 -9", window(4));
        due("efgh", x.text(4, 0));
        String before = window(4);
        dueAct(4, () -> x.duplicate(4, 4));
        due(before, window(4));
        for (int w : NO_WINDOWS) {
            refuseBounds(() -> x.duplicate(w, 0));
            refuseBounds(() -> x.duplicate(0, w));
        }
    }

    private static void partWindow() {
        fresh(5);
        fill(0, "abcdefghij");
        x.read(0, 2);
        dueAct(4, () -> x.part(0, 1, 5, 1));
        due("3 7 10 3", window(1));
        due("2 10 10 -9", window(0));
        due("defg", x.text(1, 0));
        due(97, x.look(1, 0));
        dueAct(2, () -> x.part(1, 1, 3, 2));
        due("4 6 10 4", window(2));
        due("ef", x.text(2, 0));
        x.put(2, 69);
        due("dEfg", x.text(1, 0));
        due(4, x.reset(2));
        dueAct(10, () -> x.open(2));
        dueAct(0, () -> x.part(1, 4, 4, 3));
        due("7 7 10 7", window(3));
        dueAct(0, () -> x.part(3, 0, 0, 4));
        dueAct(8, () -> x.part(0, 0, 8, 4));
        due("2 10 10 2", window(4));
        dueAct(2, () -> x.part(1, 2, 4, 1));
        due("5 7 10 5", window(1));
        due("fg", x.text(1, 0));
        x.slice(0, 5);
        x.get(5);
        dueAct(3, () -> x.part(5, 1, 4, 5));
        due("2 5 8 2", window(5));
        due("Efg", x.text(5, 0));
        refuseNine(() -> x.part(1, 0, 3, 2));
        refuseNine(() -> x.part(1, 2, 1, 2));
        refuseNine(() -> x.part(1, -1, 1, 2));
        refuseNine(() -> x.part(1, 3, 3, 2));
        refuseNine(() -> x.part(1, Integer.MIN_VALUE, Integer.MAX_VALUE, 1));
        refuseNine(() -> x.part(1, Integer.MAX_VALUE, Integer.MAX_VALUE, 1));
        refuseNine(() -> x.part(1, 1, Integer.MIN_VALUE, 1));
        for (int w : NO_WINDOWS) {
            refuseBounds(() -> x.part(w, 0, 1, 0));
            refuseBounds(() -> x.part(0, 0, 1, w));
            refuseBounds(() -> x.part(0, 9, 1, w));
            refuseBounds(() -> x.part(w, -1, 1, 0));
        }
    }

    private static void putSign() {
        fresh(6);
        x.allocate(0, 3);
        x.duplicate(0, 1);
        dueAct(2, () -> x.put(0, 0));
        dueAct(1, () -> x.put(0, 255));
        dueAct(0, () -> x.put(0, 128));
        due("3 3 3 -9", window(0));
        due("\0\u00ff\u0080", x.text(1, 0));
        refuseNine(() -> x.put(0, 1));
        refuseArgument(() -> x.put(0, 256));
        refuseArgument(() -> x.put(0, -1));
        refuseArgument(() -> x.put(1, Integer.MAX_VALUE));
        refuseArgument(() -> x.put(1, Integer.MIN_VALUE));
        x.part(1, 0, 1, 2);
        dueAct(0, () -> x.put(2, 7));
        due("1 1 3 0", window(2));
        refuseNine(() -> x.put(2, 7));
        for (int w : NO_WINDOWS) {
            refuseBounds(() -> x.put(w, 1));
            refuseBounds(() -> x.put(w, 256));
        }
    }

    private static void runSigns() {
        fresh(7);
        x.allocate(0, 40);
        dueAct(5, () -> x.run(0, 250, 3, 5));
        due("5 40 40 -9", window(0));
        due(250, x.look(0, 0));
        due(253, x.look(0, 1));
        due(0, x.look(0, 2));
        due(3, x.look(0, 3));
        due(6, x.look(0, 4));
        due(0, x.look(0, 5));
        dueAct(0, () -> x.run(0, 1, 1, 0));
        dueAct(3, () -> x.run(2, 0, 1, 3));
        x.flip(2);
        due("\0\1\2", x.text(2, 0));
        dueAct(35, () -> x.run(0, 255, 255, 40));
        due(255, x.look(0, 5));
        due(254, x.look(0, 6));
        due(221, x.look(0, 39));
        dueAct(0, () -> x.run(0, 1, 1, 40));
        x.rewind(0);
        dueAct(40, () -> x.run(0, 9, 0, 40));
        due(9, x.look(0, 0));
        due(9, x.look(0, 39));
        refuseArgument(() -> x.run(0, 256, 1, 1));
        refuseArgument(() -> x.run(0, -1, 1, 1));
        refuseArgument(() -> x.run(0, 1, 256, 1));
        refuseArgument(() -> x.run(0, 1, -1, 1));
        refuseArgument(() -> x.run(0, 1, 1, 41));
        refuseArgument(() -> x.run(1, 1, 1, -1));
        refuseArgument(() -> x.run(1, Integer.MIN_VALUE, Integer.MAX_VALUE, Integer.MIN_VALUE));
        for (int w : NO_WINDOWS) {
            refuseBounds(() -> x.run(w, 1, 1, 1));
            refuseBounds(() -> x.run(w, 256, -1, 41));
        }
    }

    private static void writeLetters() {
        fresh(8);
        x.allocate(0, 40);
        dueAct(4, () -> x.write(0, 16, 4));
        due("4 40 40 -9", window(0));
        x.flip(0);
        due("bcba", x.text(0, 0));
        x.allocate(0, 40);
        dueAct(20, () -> x.write(0, Integer.MAX_VALUE, 20));
        x.flip(0);
        // 2^31 - 1 in base 3 is 12112122212110202101, here from the least digit on.
        due("babcacabbcbcccbcbbcb", x.text(0, 0));
        x.allocate(0, 3);
        dueAct(0, () -> x.write(0, 5, 0));
        dueAct(3, () -> x.write(0, 5, 20));
        dueAct(0, () -> x.write(0, 5, 20));
        x.rewind(0);
        due("cba", x.text(0, 0));
        refuseArgument(() -> x.write(0, -1, 2));
        refuseArgument(() -> x.write(0, Integer.MIN_VALUE, 2));
        refuseArgument(() -> x.write(0, 1, 21));
        refuseArgument(() -> x.write(0, 1, -1));
        for (int w : NO_WINDOWS) {
            refuseBounds(() -> x.write(w, 1, 1));
            refuseBounds(() -> x.write(w, -1, 21));
        }
    }

    private static void getSign() {
        fresh(9);
        fill(0, "a\u00ff");
        dueAct(97, () -> x.get(0));
        due("1 2 2 -9", window(0));
        dueAct(255, () -> x.get(0));
        refuseNine(() -> x.get(0));
        due("2 2 2 -9", window(0));
        x.allocate(1, 0);
        refuseNine(() -> x.get(1));
        dueAct(0, () -> x.get(2));
        x.part(2, 0, 1, 3);
        dueAct(0, () -> x.get(3));
        refuseNine(() -> x.get(3));
        for (int w : NO_WINDOWS) {
            refuseBounds(() -> x.get(w));
        }
    }

    private static void readSigns() {
        fresh(10);
        fill(0, "abcdef");
        dueAct("", () -> x.read(0, 0));
        dueAct("ab", () -> x.read(0, 2));
        due("2 6 6 -9", window(0));
        dueAct("cdef", () -> x.read(0, 40));
        dueAct("", () -> x.read(0, 40));
        due("6 6 6 -9", window(0));
        fill(1, "\0\u0080\u00ff");
        dueAct("\0\u0080\u00ff", () -> x.read(1, 3));
        x.allocate(2, 40);
        dueAct(repeat("\0", 40), () -> x.read(2, 40));
        refuseArgument(() -> x.read(0, 41));
        refuseArgument(() -> x.read(0, -1));
        refuseArgument(() -> x.read(3, Integer.MAX_VALUE));
        for (int w : NO_WINDOWS) {
            refuseBounds(() -> x.read(w, 1));
            refuseBounds(() -> x.read(w, 41));
        }
    }

    private static void pourSigns() {
        fresh(11);
        fill(0, "abcdef");
        x.allocate(1, 4);
        dueAct(0, () -> x.pour(0, 1, 0));
        dueAct(2, () -> x.pour(0, 1, 2));
        due("2 6 6 -9", window(0));
        due("2 4 4 -9", window(1));
        dueAct(2, () -> x.pour(0, 1, 40));
        x.rewind(1);
        due("abcd", x.text(1, 0));
        due("ef", x.text(0, 0));
        dueAct(2, () -> x.pour(0, 1, 40));
        dueAct(0, () -> x.pour(0, 1, 40));
        x.rewind(1);
        due("efcd", x.text(1, 0));
        // Over the same row, what was written is read later on.
        fill(2, "xyzuvw");
        x.duplicate(2, 3);
        x.get(3);
        dueAct(5, () -> x.pour(2, 3, 40));
        due("5 6 6 -9", window(2));
        due("6 6 6 -9", window(3));
        x.rewind(2);
        due("xxxxxx", x.text(2, 0));
        fill(2, "xyzuvw");
        x.duplicate(2, 3);
        x.get(2);
        dueAct(5, () -> x.pour(2, 3, 40));
        x.rewind(2);
        due("yzuvww", x.text(2, 0));
        refuseArgument(() -> x.pour(0, 0, 3));
        refuseArgument(() -> x.pour(2, 3, 41));
        refuseArgument(() -> x.pour(2, 3, -1));
        for (int w : NO_WINDOWS) {
            refuseBounds(() -> x.pour(w, 0, 1));
            refuseBounds(() -> x.pour(0, w, 1));
            refuseBounds(() -> x.pour(w, w, 41));
        }
    }

    private static void markWindow() {
        fresh(12);
        dueAct(0, () -> x.mark(0));
        due("0 12 12 0", window(0));
        x.read(0, 5);
        due("5 12 12 0", window(0));
        dueAct(5, () -> x.mark(0));
        due("5 12 12 5", window(0));
        x.read(0, 40);
        dueAct(12, () -> x.mark(0));
        due("12 12 12 12", window(0));
        for (int w : NO_WINDOWS) {
            refuseBounds(() -> x.mark(w));
        }
    }

    private static void resetWindow() {
        fresh(13);
        refuseNine(() -> x.reset(0));
        x.read(0, 4);
        refuseNine(() -> x.reset(0));
        x.mark(0);
        x.read(0, 6);
        dueAct(4, () -> x.reset(0));
        due("4 12 12 4", window(0));
        dueAct(4, () -> x.reset(0));
        x.get(0);
        dueAct(4, () -> x.reset(0));
        x.mark(1);
        dueAct(0, () -> x.reset(1));
        for (int w : NO_WINDOWS) {
            refuseBounds(() -> x.reset(w));
        }
    }

    private static void rewindWindow() {
        fresh(14);
        fill(0, "abcdefgh");
        x.part(0, 3, 6, 1);
        dueAct(6, () -> x.rewind(1));
        due("0 6 8 -9", window(1));
        due("abcdef", x.text(1, 0));
        dueAct(6, () -> x.rewind(1));
        refuseNine(() -> x.reset(1));
        for (int w : NO_WINDOWS) {
            refuseBounds(() -> x.rewind(w));
        }
    }

    private static void flipWindow() {
        fresh(15);
        fill(0, "abcdefgh");
        x.read(0, 3);
        x.mark(0);
        x.read(0, 2);
        dueAct(5, () -> x.flip(0));
        due("0 5 8 -9", window(0));
        due("abcde", x.text(0, 0));
        dueAct(0, () -> x.flip(0));
        due("0 0 8 -9", window(0));
        refuseNine(() -> x.reset(0));
        for (int w : NO_WINDOWS) {
            refuseBounds(() -> x.flip(w));
        }
    }

    private static void compactWindow() {
        fresh(16);
        fill(0, "abcdefghij");
        x.duplicate(0, 1);
        x.read(0, 2);
        x.part(0, 1, 5, 2);
        dueAct(4, () -> x.compact(2));
        due("4 10 10 -9", window(2));
        due("defgefghij", x.text(1, 0));
        x.slice(0, 3);
        x.read(3, 3);
        dueAct(5, () -> x.compact(3));
        due("5 8 8 -9", window(3));
        due("defghijhij", x.text(1, 0));
        dueAct(10, () -> x.compact(1));
        due("10 10 10 -9", window(1));
        dueAct(0, () -> x.compact(1));
        due("0 10 10 -9", window(1));
        due("defghijhij", x.text(1, 0));
        x.allocate(4, 0);
        dueAct(0, () -> x.compact(4));
        due("0 0 0 -9", window(4));
        for (int w : NO_WINDOWS) {
            refuseBounds(() -> x.compact(w));
        }
    }

    private static void openWindow() {
        fresh(17);
        fill(0, "abcdefgh");
        x.part(0, 2, 4, 1);
        dueAct(8, () -> x.open(1));
        due("0 8 8 -9", window(1));
        due("abcdefgh", x.text(1, 0));
        x.read(0, 3);
        x.slice(0, 2);
        x.flip(2);
        dueAct(5, () -> x.open(2));
        due("defgh", x.text(2, 0));
        for (int w : NO_WINDOWS) {
            refuseBounds(() -> x.open(w));
        }
    }

    private static void keepText() {
        fresh(18);
        fill(0, "abcdef");
        x.get(0);
        dueAct(5, () -> x.keep(0));
        due(-1, x.differ(7, 0));
        x.put(0, 90);
        x.get(0);
        due("bcdef", spell(7));
        dueAct(5, () -> x.keep(7));
        due("bcdef", spell(7));
        x.load(0);
        dueAct(3, () -> x.keep(6));
        due("def", spell(7));
        x.change(0, 68);
        due("def", spell(7));
        empty(1);
        dueAct(0, () -> x.keep(1));
        due("", spell(7));
        fill(2, repeat("ab", 20));
        x.load(2);
        x.build(2);
        dueAct(80, () -> x.keep(6));
        due(repeat("ab", 40), spell(7));
        for (int w : NO_SOURCES) {
            refuseBounds(() -> x.keep(w));
        }
    }

    private static void empty(int win) {
        x.allocate(win, 0);
    }

    private static void loadText() {
        fresh(19);
        fill(0, "abcdef");
        x.get(0);
        dueAct(5, () -> x.load(0));
        x.put(0, 90);
        due("bcdef", spell(6));
        dueAct(5, () -> x.load(6));
        due("bcdef", spell(6));
        x.keep(0);
        dueAct(4, () -> x.load(7));
        due("cdef", spell(6));
        x.change(0, 67);
        due("cdef", spell(7));
        empty(3);
        dueAct(0, () -> x.load(3));
        due("", spell(6));
        for (int w : NO_SOURCES) {
            refuseBounds(() -> x.load(w));
        }
    }

    private static void buildText() {
        fresh(20);
        fill(0, "abc");
        dueAct(3, () -> x.build(0));
        dueAct(6, () -> x.build(6));
        due("abcabc", spell(6));
        fill(1, "xy");
        x.keep(1);
        dueAct(8, () -> x.build(7));
        due("abcabcxy", spell(6));
        dueAct(20, () -> x.build(2));
        fill(2, repeat("z", 40));
        dueAct(60, () -> x.build(2));
        refuseState(() -> x.build(6));
        refuseState(() -> x.build(2));
        fill(3, repeat("q", 20));
        dueAct(80, () -> x.build(3));
        refuseState(() -> x.build(1));
        refuseState(() -> x.build(6));
        empty(4);
        dueAct(80, () -> x.build(4));
        due("abcabcxy" + repeat("\0", 12) + repeat("z", 40) + repeat("q", 20), spell(6));
        fill(5, "a");
        refuseState(() -> x.build(5));
        for (int w : NO_SOURCES) {
            refuseBounds(() -> x.build(w));
        }
    }

    private static void turnText() {
        fresh(21);
        dueAct(0, () -> x.turn());
        fill(0, "abcd");
        x.load(0);
        dueAct(4, () -> x.turn());
        due("dcba", spell(6));
        due("abcd", x.text(0, 0));
        fill(1, "x");
        x.build(1);
        dueAct(5, () -> x.turn());
        due("xabcd", spell(6));
        fill(2, "q");
        x.load(2);
        dueAct(1, () -> x.turn());
        due("q", spell(6));
    }

    private static void changeSign() {
        fresh(22);
        refuseBounds(() -> x.change(0, 1));
        fill(0, "abc");
        x.load(0);
        x.keep(6);
        dueAct(97, () -> x.change(0, 255));
        dueAct(99, () -> x.change(2, 0));
        dueAct(98, () -> x.change(1, 98));
        due("\u00ffb\0", spell(6));
        due("abc", spell(7));
        due("abc", x.text(0, 0));
        dueAct(255, () -> x.change(0, 97));
        refuseBounds(() -> x.change(3, 1));
        refuseBounds(() -> x.change(-1, 1));
        refuseBounds(() -> x.change(79, 1));
        refuseBounds(() -> x.change(-1, 256));
        refuseBounds(() -> x.change(Integer.MIN_VALUE, -1));
        refuseBounds(() -> x.change(Integer.MAX_VALUE, 1));
        refuseArgument(() -> x.change(0, 256));
        refuseArgument(() -> x.change(0, -1));
        refuseArgument(() -> x.change(2, Integer.MAX_VALUE));
        // What was once there and is there no more is no place of the builder.
        fill(1, "a");
        x.load(1);
        refuseBounds(() -> x.change(1, 1));
    }

    private static void pipeMadeNew() {
        fresh(23);
        dueAct(0, () -> x.pipe(1));
        due(1, x.feed(5, 9));
        dueAct(1, () -> x.pipe(8));
        due("", x.held());
        due("", x.travelled(0));
        due("", x.travelled(1));
        due(8, x.feed(5, 9));
        x.drain(3);
        dueAct(5, () -> x.pipe(3));
        due("", x.held());
        due("", x.travelled(0));
        due("", x.travelled(1));
        due(3, x.feed(5, 9));
        refuseArgument(() -> x.pipe(0));
        refuseArgument(() -> x.pipe(9));
        refuseArgument(() -> x.pipe(-1));
        refuseArgument(() -> x.pipe(Integer.MAX_VALUE));
        refuseArgument(() -> x.pipe(Integer.MIN_VALUE));
    }

    private static void feedPipe() {
        fresh(24);
        dueAct(0, () -> x.feed(7, 0));
        dueAct(3, () -> x.feed(16, 3));
        due("bcb", x.held());
        dueAct(1, () -> x.feed(5, 20));
        due("bcbc", x.held());
        dueAct(0, () -> x.feed(5, 20));
        x.drain(2);
        dueAct(2, () -> x.feed(Integer.MAX_VALUE, 20));
        due("bcba", x.held());
        due("bcbcba", x.travelled(0));
        refuseArgument(() -> x.feed(-1, 2));
        refuseArgument(() -> x.feed(Integer.MIN_VALUE, 2));
        refuseArgument(() -> x.feed(1, 21));
        refuseArgument(() -> x.feed(1, -1));
        // Sent has 160 signs at most: 78 + 78 by pump, 4 by feed, then none though the pipe has room.
        fresh(24);
        x.pipe(8);
        fill(0, repeat("ab", 20));
        for (int i = 0; i < 3; i++) {
            x.pump(0, 8, 8);
        }
        fill(0, repeat("c", 36));
        x.pump(0, 8, 8);
        dueAct(4, () -> x.feed(0, 20));
        due("aaaa", x.held());
        due(160, x.travelled(0).length());
        dueAct(0, () -> x.feed(0, 20));
        due("aaaa", x.drain(8));
        dueAct(0, () -> x.feed(0, 1));
        due(160, x.travelled(1).length());
        due(x.travelled(0), x.travelled(1));
        x.pipe(8);
        due(8, x.feed(0, 20));
    }

    private static void drainPipe() {
        fresh(25);
        dueAct("", () -> x.drain(8));
        x.feed(16, 4);
        dueAct("", () -> x.drain(0));
        dueAct("bc", () -> x.drain(2));
        due("ba", x.held());
        due("bc", x.travelled(1));
        x.feed(8, 2);
        due("bacc", x.held());
        dueAct("bacc", () -> x.drain(8));
        due("bcbacc", x.travelled(1));
        dueAct("", () -> x.drain(1));
        x.pipe(8);
        x.feed(8, 20);
        dueAct("ccaaaaaa", () -> x.drain(8));
        refuseArgument(() -> x.drain(9));
        refuseArgument(() -> x.drain(-1));
        refuseArgument(() -> x.drain(Integer.MAX_VALUE));
    }

    private static void pumpText() {
        fresh(26);
        fill(0, "abcdefghij");
        x.get(0);
        x.pipe(3);
        x.feed(8, 2);
        // Rounds: cc+b -> c, cb+c -> c, bc+d .., one comes out in each: 11 signs, 11 rounds.
        dueAct("ccbcdefghij", () -> x.pump(0, 2, 1));
        due(11, x.house(3));
        due("1 10 10 -9", window(0));
        due("", x.held());
        due("ccbcdefghij", x.travelled(0));
        due("ccbcdefghij", x.travelled(1));
        // 3 in, 2 out: 3-2, +2-2, +2-2, +2-2 (all 9 in), 1 left: 5 rounds.
        dueAct("bcdefghij", () -> x.pump(0, 8, 2));
        due(16, x.house(3));
        // In 2, out 8: 2 each, 5 rounds.
        dueAct("bcdefghij", () -> x.pump(0, 2, 8));
        due(21, x.house(3));
        empty(1);
        dueAct("", () -> x.pump(1, 1, 1));
        due(21, x.house(3));
        x.feed(0, 3);
        dueAct("aaa", () -> x.pump(1, 1, 1));
        due(24, x.house(3));
        x.feed(0, 3);
        dueAct("aaabcdefghij", () -> x.pump(0, 8, 8));
        // Full at first: round 1 lets in none and out 3, then 3 rounds of 3.
        due(28, x.house(3));
        x.load(0);
        dueAct("bcdefghij", () -> x.pump(6, 3, 3));
        due(31, x.house(3));
        x.keep(0);
        dueAct("bcdefghij", () -> x.pump(7, 3, 3));
        due(34, x.house(3));
        refuseArgument(() -> x.pump(0, 0, 1));
        refuseArgument(() -> x.pump(0, 9, 1));
        refuseArgument(() -> x.pump(0, 1, 0));
        refuseArgument(() -> x.pump(0, 1, 9));
        refuseArgument(() -> x.pump(0, Integer.MIN_VALUE, Integer.MAX_VALUE));
        for (int w : NO_SOURCES) {
            refuseBounds(() -> x.pump(w, 1, 1));
            refuseBounds(() -> x.pump(w, 0, 9));
        }
        x.pipe(8);
        fill(2, repeat("k", 40));
        for (int i = 0; i < 3; i++) {
            x.pump(2, 8, 8);
        }
        x.feed(0, 1);
        refuseState(() -> x.pump(2, 1, 1));
        refuseArgument(() -> x.pump(2, 0, 1));
        x.get(2);
        dueAct("a" + repeat("k", 39), () -> x.pump(2, 1, 1));
        due(160, x.travelled(0).length());
        refuseState(() -> x.pump(0, 8, 8));
        dueAct("", () -> x.pump(1, 8, 8));
        x.pipe(4);
        dueAct(repeat("k", 39), () -> x.pump(2, 4, 8));
    }

    private static void leftOfWindow() {
        fresh(27);
        fill(0, "abcdef");
        x.read(0, 2);
        ask(4, () -> x.left(0, 0));
        ask(4, () -> x.left(0, 1));
        x.part(0, 1, 3, 1);
        ask(2, () -> x.left(1, 0));
        ask(2, () -> x.left(1, 1));
        x.read(0, 40);
        ask(0, () -> x.left(0, 0));
        refuseArgument(() -> x.left(0, 2));
        refuseArgument(() -> x.left(0, -1));
        for (int w : NO_WINDOWS) {
            refuseBounds(() -> x.left(w, 0));
            refuseBounds(() -> x.left(w, 2));
        }
    }

    private static void boundsOfWindow() {
        fresh(28);
        fill(0, "abcdefgh");
        x.read(0, 3);
        x.mark(0);
        x.part(0, 1, 4, 1);
        x.slice(1, 2);
        ask(3, () -> x.position(0));
        ask(4, () -> x.position(1));
        ask(0, () -> x.position(2));
        promise = 29;
        ask(8, () -> x.limit(0));
        ask(7, () -> x.limit(1));
        ask(3, () -> x.limit(2));
        promise = 30;
        ask(8, () -> x.capacity(0));
        ask(8, () -> x.capacity(1));
        ask(3, () -> x.capacity(2));
        promise = 31;
        ask(3, () -> x.marked(0));
        ask(4, () -> x.marked(1));
        ask(-9, () -> x.marked(2));
        x.mark(2);
        ask(0, () -> x.marked(2));
        due(0, x.house(1));
        for (int w : NO_WINDOWS) {
            promise = 28;
            refuseBounds(() -> x.position(w));
            promise = 29;
            refuseBounds(() -> x.limit(w));
            promise = 30;
            refuseBounds(() -> x.capacity(w));
            promise = 31;
            refuseBounds(() -> x.marked(w));
        }
    }

    private static void signOfText() {
        fresh(32);
        fill(0, "abcdef\u00ff");
        x.read(0, 2);
        ask(99, () -> x.sign(0, 0));
        ask(255, () -> x.sign(0, 4));
        ask(-9, () -> x.sign(0, 5));
        ask(-9, () -> x.sign(0, -1));
        ask(-9, () -> x.sign(0, -2));
        ask(-9, () -> x.sign(0, Integer.MAX_VALUE));
        ask(-9, () -> x.sign(0, Integer.MIN_VALUE));
        x.part(0, 1, 3, 1);
        ask(100, () -> x.sign(1, 0));
        ask(101, () -> x.sign(1, 1));
        ask(-9, () -> x.sign(1, 2));
        x.slice(1, 2);
        x.get(2);
        ask(101, () -> x.sign(2, 0));
        ask(-9, () -> x.sign(2, 1));
        for (int w : NO_WINDOWS) {
            refuseBounds(() -> x.sign(w, 0));
            refuseBounds(() -> x.sign(w, -1));
        }
    }

    private static void lookAtPlace() {
        fresh(33);
        fill(0, "abcdef\u00ff");
        x.read(0, 2);
        ask(97, () -> x.look(0, 0));
        ask(99, () -> x.look(0, 2));
        ask(255, () -> x.look(0, 6));
        ask(-9, () -> x.look(0, 7));
        ask(-9, () -> x.look(0, -1));
        ask(-9, () -> x.look(0, Integer.MAX_VALUE));
        ask(-9, () -> x.look(0, Integer.MIN_VALUE));
        x.part(0, 1, 3, 1);
        ask(97, () -> x.look(1, 0));
        ask(101, () -> x.look(1, 4));
        ask(-9, () -> x.look(1, 5));
        x.slice(1, 2);
        x.get(2);
        ask(100, () -> x.look(2, 0));
        ask(101, () -> x.look(2, 1));
        ask(-9, () -> x.look(2, 2));
        ask(-9, () -> x.look(2, -1));
        for (int w : NO_WINDOWS) {
            refuseBounds(() -> x.look(w, 0));
            refuseBounds(() -> x.look(w, -1));
        }
    }

    private static void textOfWindow() {
        fresh(34);
        fill(0, "abcdefg\0\u00ff");
        x.part(0, 2, 5, 1);
        x.slice(1, 2);
        x.get(2);
        empty(3);
        x.allocate(4, 40);
        x.run(4, 200, 7, 40);
        x.rewind(4);
        for (int how = 0; how <= 3; how++) {
            int by = how;
            ask("abcdefg\0\u00ff", () -> x.text(0, by));
            ask("cde", () -> x.text(1, by));
            ask("de", () -> x.text(2, by));
            ask("", () -> x.text(3, by));
            ask(repeat("\0", 12), () -> x.text(5, by));
            due(40, x.text(4, by).length());
            due((char) ((200 + 39 * 7) % 256), x.text(4, by).charAt(39));
            for (int w : NO_WINDOWS) {
                refuseBounds(() -> x.text(w, by));
            }
        }
        refuseArgument(() -> x.text(0, 4));
        refuseArgument(() -> x.text(0, -1));
        refuseArgument(() -> x.text(0, Integer.MIN_VALUE));
        refuseBounds(() -> x.text(6, 4));
    }

    private static void innerOfText() {
        fresh(35);
        fill(0, "0123456789abc");
        x.part(0, 1, 11, 1);
        x.slice(1, 2);
        x.get(2);
        for (int how = 0; how <= 2; how++) {
            int by = how;
            ask("567", () -> x.inner(0, 3, 10, 2, 5, by));
            ask("678", () -> x.inner(1, 3, 10, 2, 5, by));
            ask("789", () -> x.inner(2, 3, 9, 2, 5, by));
            ask("", () -> x.inner(0, 13, 13, 0, 0, by));
            ask("", () -> x.inner(0, 0, 13, 13, 13, by));
            ask("0123456789abc", () -> x.inner(0, 0, 13, 0, 13, by));
            refuseArgument(() -> x.inner(0, 0, 14, 0, 1, by));
            refuseArgument(() -> x.inner(1, 0, 11, 0, 1, by));
            refuseArgument(() -> x.inner(0, 3, 10, 2, 8, by));
            refuseArgument(() -> x.inner(0, 3, 2, 0, 0, by));
            refuseArgument(() -> x.inner(0, 3, 10, 3, 2, by));
            refuseArgument(() -> x.inner(0, -1, 10, 1, 2, by));
            refuseArgument(() -> x.inner(0, 0, 10, -1, 2, by));
            refuseArgument(() -> x.inner(0, Integer.MIN_VALUE, Integer.MAX_VALUE, 0, 0, by));
            for (int w : NO_WINDOWS) {
                refuseBounds(() -> x.inner(w, 0, 0, 0, 0, by));
                refuseBounds(() -> x.inner(w, 1, 0, 0, 0, by));
            }
        }
        refuseArgument(() -> x.inner(0, 0, 1, 0, 1, 3));
        refuseArgument(() -> x.inner(0, 0, 1, 0, 1, -1));
    }

    /** All places of a word, by the four ways of asking, of each pair of sources that has the two texts. */
    private static void dueSearch(String text, String word, int... places) {
        x = new Sashwords();
        fill(1, word);
        x.keep(1);
        fill(0, text);
        x.load(0);
        int[] searched = {0, 6};
        int[] sought = {1, 7};
        for (int what : searched) {
            for (int by : sought) {
                dueSearchOf(what, by, places);
            }
        }
        promise = 44;
        ask(places.length == 0 ? -1 : places[0], () -> x.known(1, 2));
        ask(places.length == 0 ? -1 : places[places.length - 1], () -> x.known(1, 3));
        x.keep(0);
        ask(places.length == 0 ? -1 : places[0], () -> x.known(1, 0));
        ask(places.length == 0 ? -1 : places[places.length - 1], () -> x.known(1, 1));
        ask(places.length == 0 ? 0 : 1, () -> x.known(1, 4));
        dueSearchOf(7, 1, places);
    }

    private static void dueSearchOf(int what, int by, int... places) {
        promise = 36;
        ask(places.length == 0 ? -1 : places[0], () -> x.first(what, by));
        promise = 37;
        ask(places.length == 0 ? -1 : places[places.length - 1], () -> x.last(what, by));
        promise = 38;
        ask(places.length, () -> x.count(what, by));
        promise = 39;
        for (int k = 0; k < places.length; k++) {
            int which = k;
            ask(places[k], () -> x.place(what, by, which));
        }
        ask(-1, () -> x.place(what, by, places.length));
        ask(-1, () -> x.place(what, by, 80));
    }

    private static void searchedTexts() {
        fresh(36);
        dueSearch("abababa", "aba", 0, 2, 4);
        dueSearch("aaaaaa", "aa", 0, 1, 2, 3, 4);
        dueSearch("abc", "", 0, 1, 2, 3);
        dueSearch("", "", 0);
        dueSearch("", "a");
        dueSearch("abc", "abc", 0);
        dueSearch("abc", "abcd");
        dueSearch("xxabc", "abc", 2);
        dueSearch("abcxx", "bcx", 1);
        dueSearch("abc", "d");
        dueSearch("aabaabaaab", "aabaaa", 3);
        dueSearch("abcabcabd", "abcabd", 3);
        dueSearch("aabaaabaaaab", "aaab", 3, 8);
        dueSearch("abab", "babb");
        dueSearch("\0\u00ff\0\u00ff\0", "\0\u00ff\0", 0, 2);
        dueSearch("aaab", "ab", 2);
        promise = 39;
        fresh(39);
        fill(0, repeat("a", 40));
        x.load(0);
        x.build(0);
        ask(80, () -> x.place(6, 7, 80));
        ask(81, () -> x.count(6, 7));
        ask(80, () -> x.last(6, 7));
        refuseArgument(() -> x.place(6, 7, 81));
        refuseArgument(() -> x.place(6, 7, -1));
        refuseArgument(() -> x.place(6, 7, Integer.MIN_VALUE));
        for (int s : NO_SOURCES) {
            promise = 36;
            refuseBounds(() -> x.first(s, 0));
            refuseBounds(() -> x.first(0, s));
            promise = 37;
            refuseBounds(() -> x.last(s, 0));
            refuseBounds(() -> x.last(0, s));
            promise = 38;
            refuseBounds(() -> x.count(s, 0));
            refuseBounds(() -> x.count(0, s));
            promise = 39;
            refuseBounds(() -> x.place(s, 0, 0));
            refuseBounds(() -> x.place(0, s, 0));
            refuseBounds(() -> x.place(0, s, 81));
            promise = 44;
            refuseBounds(() -> x.known(s, 0));
            refuseBounds(() -> x.known(s, 5));
        }
        promise = 44;
        refuseArgument(() -> x.known(0, 5));
        refuseArgument(() -> x.known(0, -1));
    }

    private static void dueBorders(String text, int greatest, String all, String chain) {
        x = new Sashwords();
        fill(0, text);
        x.load(0);
        x.keep(0);
        int[] whats = {0, 6, 7};
        for (int what : whats) {
            promise = 40;
            ask(greatest, () -> x.border(what));
            promise = 41;
            ask(all, () -> x.borders(what));
            promise = 42;
            ask(chain, () -> x.chain(what));
        }
    }

    private static void bordersOfTexts() {
        dueBorders("", 0, "", "");
        dueBorders("a", 0, "0 ", "0 ");
        dueBorders("ab", 0, "0 0 ", "0 ");
        dueBorders("aa", 1, "0 1 ", "1 0 ");
        dueBorders("aaaa", 3, "0 1 2 3 ", "3 2 1 0 ");
        dueBorders("abacaba", 3, "0 0 1 0 1 2 3 ", "3 1 0 ");
        dueBorders("aabaaab", 3, "0 1 0 1 2 2 3 ", "3 0 ");
        dueBorders("abaabaab", 5, "0 0 1 1 2 3 4 5 ", "5 2 0 ");
        dueBorders("abcabcab", 5, "0 0 0 1 2 3 4 5 ", "5 2 0 ");
        dueBorders("ababbabab", 4, "0 0 1 2 0 1 2 3 4 ", "4 2 0 ");
        dueBorders("\0\u00ff\0", 1, "0 0 1 ", "1 0 ");
        fresh(41);
        fill(0, repeat("ab", 20));
        x.load(0);
        x.build(0);
        StringBuilder all = new StringBuilder("0 0 ");
        StringBuilder chain = new StringBuilder();
        for (int n = 3; n <= 80; n++) {
            all.append(n - 2).append(' ');
        }
        for (int n = 78; n >= 0; n -= 2) {
            chain.append(n).append(' ');
        }
        ask(all.toString(), () -> x.borders(6));
        promise = 42;
        ask(chain.toString(), () -> x.chain(6));
        // What is left from a longer text in no way counts for a shorter one.
        fill(1, "aaab");
        promise = 41;
        ask("0 1 2 0 ", () -> x.borders(1));
        promise = 42;
        ask("0 ", () -> x.chain(1));
        for (int s : NO_SOURCES) {
            promise = 40;
            refuseBounds(() -> x.border(s));
            promise = 41;
            refuseBounds(() -> x.borders(s));
            promise = 42;
            refuseBounds(() -> x.chain(s));
        }
    }

    private static void differenceOfTexts() {
        fresh(43);
        ask(-1, () -> x.differ(6, 7));
        ask(0, () -> x.differ(0, 7));
        ask(0, () -> x.differ(7, 0));
        ask(-1, () -> x.differ(0, 1));
        ask(-1, () -> x.differ(0, 0));
        fill(0, "abcd");
        fill(1, "abxd");
        fill(2, "abc");
        ask(2, () -> x.differ(0, 1));
        ask(3, () -> x.differ(0, 2));
        ask(3, () -> x.differ(2, 0));
        x.load(0);
        ask(-1, () -> x.differ(6, 0));
        x.change(3, 0);
        ask(3, () -> x.differ(6, 0));
        ask(3, () -> x.differ(2, 6));
        x.keep(2);
        ask(2, () -> x.differ(7, 1));
        for (int s : NO_SOURCES) {
            refuseBounds(() -> x.differ(s, 0));
            refuseBounds(() -> x.differ(0, s));
        }
    }

    private static void pipeAsked() {
        fresh(45);
        ask("", () -> x.held());
        x.feed(16, 4);
        ask("bcba", () -> x.held());
        x.drain(1);
        ask("cba", () -> x.held());
        x.feed(2, 1);
        ask("cbac", () -> x.held());
        promise = 46;
        ask("bcbac", () -> x.travelled(0));
        ask("b", () -> x.travelled(1));
        refuseArgument(() -> x.travelled(2));
        refuseArgument(() -> x.travelled(-1));
    }

    private static void houseCounts() {
        fresh(47);
        Call[] acts = {() -> x.allocate(0, 9), () -> x.slice(0, 1), () -> x.duplicate(0, 2), () -> x.part(0, 0, 1, 3),
            () -> x.put(0, 1), () -> x.run(0, 1, 1, 1), () -> x.write(0, 1, 1), () -> x.get(0), () -> x.read(0, 1),
            () -> x.pour(0, 1, 1), () -> x.mark(0), () -> x.reset(0), () -> x.rewind(0), () -> x.flip(0),
            () -> x.compact(0), () -> x.open(0), () -> x.keep(3), () -> x.load(3), () -> x.build(3), () -> x.turn(),
            () -> x.change(0, 1), () -> x.pipe(2), () -> x.feed(1, 1), () -> x.drain(1), () -> x.pump(3, 1, 1)};
        for (int k = 0; k < acts.length; k++) {
            due(k, x.house(0));
            answer(acts[k]);
        }
        ask(25, () -> x.house(0));
        ask(0, () -> x.house(1));
        ask(0, () -> x.house(2));
        ask(1, () -> x.house(3));
        x.reset(4);
        x.part(4, 1, 0, 4);
        ask(2, () -> x.house(1));
        ask(25, () -> x.house(0));
        x.knock();
        ask(1, () -> x.house(2));
        ask(25, () -> x.house(0));
        refuseArgument(() -> x.house(4));
        refuseArgument(() -> x.house(-1));
        refuseArgument(() -> x.house(Integer.MAX_VALUE));
    }

    private static void knocks() {
        fresh(48);
        String before = x.house(0) + "," + x.house(1) + "," + x.house(3);
        for (int k = 1; k <= 5; k++) {
            due(k, x.knock());
            due(k, x.house(2));
        }
        due(before, x.house(0) + "," + x.house(1) + "," + x.house(3));
    }

    private static void soundness() {
        fresh(49);
        ask(true, () -> x.isSound());
        fill(0, "abaababaab");
        x.load(0);
        x.part(0, 0, 3, 1);
        x.keep(1);
        x.slice(1, 2);
        x.part(0, 2, 7, 3);
        x.reset(3);
        x.feed(77, 4);
        x.drain(2);
        ask(true, () -> x.isSound());
        x.build(6);
        x.turn();
        x.read(0, 40);
        x.compact(3);
        ask(true, () -> x.isSound());
        x.keep(6);
        x.load(4);
        ask(true, () -> x.isSound());
    }

    private static long mixed(long d, String numbers) {
        long sum = d;
        for (String number : numbers.trim().split(" +")) {
            if (!number.isEmpty()) {
                sum = sum * 31 + Long.parseLong(number);
            }
        }
        return sum;
    }

    private static void checksum() {
        fresh(50);
        // Six windows: position, limit, capacity, mark, 12 signs, border 11, first 0; then the rest.
        StringBuilder row = new StringBuilder();
        for (int w = 0; w < 6; w++) {
            row.append("0 12 12 -9 0 0 0 0 0 0 0 0 0 0 0 0 11 0 ");
        }
        due(mixed(7702, row + "0 0 0 0 1 1 0 0 0 0 0 0 1"), answer(() -> x.digest()));
        for (int w = 0; w < 6; w++) {
            x.allocate(w, 0);
        }
        x.part(0, 1, 1, 0);
        fill(1, "abab");
        x.load(1);
        x.part(1, 2, 4, 2);
        x.keep(2);
        x.feed(16, 3);
        x.drain(1);
        x.pump(3, 1, 1);
        x.feed(5, 2);
        x.drain(1);
        x.knock();
        // Acts done: 6, fill is 6, 8 more; -9 once; one knock; two rounds.
        String none = "0 0 0 -9 0 -1 ";
        String due = none + "0 4 4 -9 97 98 97 98 2 0 " + "2 4 4 2 97 98 0 0 " + none + none + none
                + "4 97 98 97 98 2 97 98 2 0 2 0 " + "1 98 5 " + "20 1 1 2 1";
        due(mixed(7702, due), answer(() -> x.digest()));
        ask(mixed(7702, due), () -> x.digest());
    }

    public static void main(String[] args) {
        newObject();
        allocateWindow();
        sliceWindow();
        duplicateWindow();
        partWindow();
        putSign();
        runSigns();
        writeLetters();
        getSign();
        readSigns();
        pourSigns();
        markWindow();
        resetWindow();
        rewindWindow();
        flipWindow();
        compactWindow();
        openWindow();
        keepText();
        loadText();
        buildText();
        turnText();
        changeSign();
        pipeMadeNew();
        feedPipe();
        drainPipe();
        pumpText();
        leftOfWindow();
        boundsOfWindow();
        signOfText();
        lookAtPlace();
        textOfWindow();
        innerOfText();
        searchedTexts();
        bordersOfTexts();
        differenceOfTexts();
        pipeAsked();
        houseCounts();
        knocks();
        soundness();
        checksum();
        System.out.println("PromiseTests: " + checks + " checks, " + wrong + " wrong");
        if (wrong != 0) {
            System.exit(1);
        }
    }
}
