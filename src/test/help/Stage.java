import java.lang.reflect.InvocationTargetException;
import java.lang.reflect.Method;
import java.nio.file.Files;
import java.nio.file.Path;
import java.util.ArrayList;
import java.util.Arrays;
import java.util.LinkedHashMap;
import java.util.List;
import java.util.Map;
import java.util.TreeSet;

/**
 * Where the edge tests make their calls, told as texts ("part 0 1 5 1"). Each check makes its call on a new object
 * behind the calls of the scene, and compares all that can be found out of the object then with a twin that had the
 * same calls but that one. Each check stands for a sentence of the document, and at the end each sentence of the
 * chapters that a test covers must have had one. No object gets more calls than the document lets it have.
 */
final class Stage {
    static final String BOUNDS = "throws.IndexOutOfBoundsException";
    static final String ARGUMENT = "throws.IllegalArgumentException";
    static final String STATE = "throws.IllegalStateException";
    private static final int CALLS_MOST = 512;
    private static final int[] DONE = {1, 0, 0, 0};
    private static final int[] REFUSED = {0, 1, 0, 0};
    private static final int[] NOTHING = {0, 0, 0, 0};
    private static final Map<String, Method> FACE = face();
    private static final Map<String, List<String>> SENTENCES = sentences();
    private static final TreeSet<String> COVERED = new TreeSet<>();

    private static String chapter = "";
    private static String sentence = "";
    private static List<String> scene = List.of();
    private static Map<String, String> twin = Map.of();
    private static int checks = 0;
    private static int wrong = 0;

    private Stage() {
    }

    /** An object with its calls counted. */
    private static final class Piece {
        private final Sashwords object = new Sashwords();
        private int calls = 0;

        Object make(String call) {
            String[] words = call.trim().split(" ");
            Object[] arguments = new Object[words.length - 1];
            for (int i = 0; i < arguments.length; i++) {
                arguments[i] = number(words[i + 1]);
            }
            calls++;
            if (calls > CALLS_MOST) {
                throw new IllegalStateException("more than " + CALLS_MOST + " calls on one object: " + call);
            }
            try {
                return FACE.get(words[0]).invoke(object, arguments);
            } catch (InvocationTargetException e) {
                return "throws." + e.getCause().getClass().getSimpleName();
            } catch (IllegalAccessException | IllegalArgumentException | NullPointerException e) {
                throw new IllegalStateException("this is no call of the face: " + call, e);
            }
        }

        String tell(String call) {
            return String.valueOf(make(call));
        }

        int count(String call) {
            Object told = make(call);
            return told instanceof Integer ? (Integer) told : -1000;
        }
    }

    private static int number(String word) {
        switch (word) {
            case "MIN":
                return Integer.MIN_VALUE;
            case "MAX":
                return Integer.MAX_VALUE;
            default:
                return Integer.parseInt(word);
        }
    }

    private static Map<String, Method> face() {
        Map<String, Method> all = new LinkedHashMap<>();
        for (Method m : Sashwords.class.getMethods()) {
            if (m.getDeclaringClass() == Sashwords.class) {
                all.put(m.getName(), m);
            }
        }
        return all;
    }

    // The document.

    /** The sentences by chapters: "section 1" to "section 4", "always", and "promise 1" and so on. */
    private static Map<String, List<String>> sentences() {
        Map<String, List<String>> all = new LinkedHashMap<>();
        String now = "";
        try {
            for (String line : Files.readAllLines(Path.of("../shared/DOC.md"))) {
                if (line.startsWith("== ")) {
                    now = "section " + line.charAt(3);
                } else if (line.startsWith("## ")) {
                    now = line.startsWith("## Promise ") ? line.substring(3, line.indexOf(':')).toLowerCase() : "";
                } else if (line.startsWith("WHAT ALWAYS HOLDS")) {
                    all.put("always", List.of(line.substring(line.indexOf("called: ") + 8).split("(?<=;) ")));
                } else if (!now.isEmpty() && saysSomething(line)) {
                    List<String> list = all.computeIfAbsent(now, k -> new ArrayList<>());
                    list.addAll(Arrays.asList(line.trim().split("(?<=[.]) +(?=[A-Z])")));
                }
            }
        } catch (java.io.IOException e) {
            throw new IllegalStateException("the document can't be read", e);
        }
        return all;
    }

    private static boolean saysSomething(String line) {
        return !line.isBlank() && !line.startsWith("`") && !line.startsWith("- `") && !line.startsWith("ACTS: ")
                && !line.startsWith("what is asked: ") && !line.startsWith("The constructor and the methods follow");
    }

    /** From here on the checks stand for the sentence of the promise that has these words. */
    static void says(int promise, String words) {
        says("promise " + promise, words);
    }

    static void says(String where, String words) {
        chapter = where;
        sentence = found(words);
        if (sentence.isEmpty()) {
            fail("the document has no sentence with: " + words);
        }
    }

    private static String found(String words) {
        for (String one : SENTENCES.getOrDefault(chapter, List.of())) {
            if (one.contains(words)) {
                return one;
            }
        }
        return "";
    }

    /** Tells of each sentence of the chapters for which no check stood; ends the program with 1 if one was wrong. */
    static void finish(String name, List<String> chapters) {
        for (String one : chapters) {
            for (String words : SENTENCES.getOrDefault(one, List.of("the whole chapter"))) {
                if (!COVERED.contains(one + ": " + words)) {
                    wrong++;
                    System.out.println(one + ": no check stands for: " + words);
                }
            }
        }
        System.out.println(name + ": " + checks + " checks for " + COVERED.size() + " sentences, " + wrong + " wrong");
        if (wrong != 0) {
            System.exit(1);
        }
    }

    private static void fail(String what) {
        wrong++;
        System.out.println(chapter + ", \"" + sentence + "\"\n  behind " + scene + "\n  " + what);
    }

    private static void due(Object want, Object got, String what) {
        if (!want.equals(got)) {
            fail(what + " told " + got + ", due is " + want);
        }
    }

    // The scene and what is found out of it.

    /** The calls ahead of each check, with ";" between them; none of them may throw. */
    static void scene(String... lists) {
        List<String> calls = new ArrayList<>();
        for (String list : lists) {
            for (String call : list.split(";")) {
                if (!call.isBlank()) {
                    calls.add(call.trim());
                }
            }
        }
        scene = calls;
        twin = foundOut(played());
    }

    private static Piece played() {
        Piece piece = new Piece();
        for (String call : scene) {
            String told = piece.tell(call);
            if (told.startsWith("throws.")) {
                fail("in the scene " + call + " " + told);
            }
        }
        return piece;
    }

    /** Calls that make a window new with just this text, standing at its start. */
    static String fill(int win, String text) {
        StringBuilder calls = new StringBuilder("allocate " + win + " " + text.length());
        for (int k = 0; k < text.length(); k++) {
            calls.append("; put ").append(win).append(' ').append((int) text.charAt(k));
        }
        return calls.append("; rewind ").append(win).toString();
    }

    /** A text as the checks write it: "." is the sign 0, and what can't be printed stands by its number. */
    static String shown(String text) {
        StringBuilder all = new StringBuilder();
        for (char c : text.toCharArray()) {
            if (c == 0) {
                all.append('.');
            } else if (c < 32 || c > 126 || c == '.') {
                all.append('<').append((int) c).append('>');
            } else {
                all.append(c);
            }
        }
        return all.toString();
    }

    private static Map<String, String> foundOut(Piece piece) {
        Map<String, String> all = new LinkedHashMap<>();
        all.put("house", piece.tell("house 0") + " " + piece.tell("house 1") + " " + piece.tell("house 2") + " "
                + piece.tell("house 3"));
        all.put("sound", piece.tell("isSound"));
        all.put("digest", piece.tell("digest"));
        List<Integer> summed = new ArrayList<>();
        for (int w = 0; w < 6; w++) {
            all.put("w" + w, windowFoundOut(piece, w, summed));
        }
        int[] ends = {piece.count("border 6"), piece.count("border 7"), piece.count("count 6 7"),
            piece.count("count 7 6")};
        all.put("ends", Arrays.toString(ends));
        String held = piece.tell("held");
        String sent = piece.tell("travelled 0");
        String came = piece.tell("travelled 1");
        due(sent, came + held, "what came, and what is held behind it, in place of what was sent");
        piece.make("drain 8");
        // How many go into the empty pipe now tells its size, as long as what was sent leaves room.
        all.put("pipe", piece.tell("feed 0 20") + " " + shown(held) + "|" + shown(sent) + "|" + shown(came));
        piece.make("pipe 8");
        String builder = piece.tell("pump 6 8 8");
        String kept = piece.tell("pump 7 8 8");
        all.put("builder", shown(builder));
        all.put("kept", shown(kept));
        sum(summed, builder.length(), builder);
        sum(summed, kept.length(), kept);
        for (int end : ends) {
            summed.add(end);
        }
        sum(summed, held.length(), held);
        summed.add(sent.length());
        due("true " + digestOf(summed, all.get("house")), all.get("sound") + " " + all.get("digest"), "digest()");
        rowsFoundOut(piece, all);
        return all;
    }

    private static String windowFoundOut(Piece piece, int w, List<Integer> summed) {
        int position = piece.count("position " + w);
        int limit = piece.count("limit " + w);
        int capacity = piece.count("capacity " + w);
        int mark = piece.count("marked " + w);
        if (mark > position || mark < 0 && mark != -9 || position < 0 || position > limit || limit > capacity) {
            fail("the bounds of window " + w + " are " + position + " " + limit + " " + capacity + " " + mark);
        }
        summed.addAll(List.of(position, limit, capacity, mark));
        String text = piece.tell("text " + w + " 0");
        for (char c : text.toCharArray()) {
            summed.add((int) c);
        }
        summed.add(piece.count("border " + w));
        summed.add(piece.count("first " + w + " 7"));
        return position + " " + limit + " " + capacity + " " + mark + " " + text;
    }

    private static void sum(List<Integer> summed, int length, String text) {
        summed.add(length);
        for (char c : text.toCharArray()) {
            summed.add((int) c);
        }
    }

    private static String digestOf(List<Integer> summed, String house) {
        long d = 7702;
        for (int v : summed) {
            d = d * 31 + v;
        }
        for (String v : house.split(" ")) {
            d = d * 31 + Integer.parseInt(v);
        }
        return String.valueOf(d * 31 + 1);
    }

    /** Puts the windows' whole rows in the place of their texts, and tells by writing which places are shared. */
    private static void rowsFoundOut(Piece piece, Map<String, String> all) {
        for (int w = 0; w < 6; w++) {
            String[] told = all.get("w" + w).split(" ", 5);
            piece.make("open " + w);
            String row = piece.tell("text " + w + " 0");
            int position = Integer.parseInt(told[0]);
            int limit = Integer.parseInt(told[1]);
            if (position >= 0 && position <= limit && limit <= row.length()) {
                due(row.substring(position, limit), told[4], "the text of window " + w);
            }
            all.put("w" + w, told[0] + " " + told[1] + " " + told[2] + " " + told[3] + " " + shown(row));
        }
        StringBuilder shares = new StringBuilder();
        for (int w = 0; w < 6; w++) {
            piece.make("run " + w + " " + 40 * w + " 1 40");
            piece.make("open " + w);
            for (int other = 0; other < 6; other++) {
                shares.append(shown(piece.tell("text " + other + " 0"))).append('|');
            }
        }
        all.put("shares", shares.toString());
    }

    // The checks.

    /** An act that is done; what changes are the lines told, as in "w1: 3 7 10 3 abc", and nothing else. */
    static void done(Object want, String call, String... changes) {
        changed(want, call, DONE, changes);
    }

    /** An act that tells -9, and changes nothing but the count of such refusals. */
    static void nine(String call) {
        Map<String, String> after = changed(-9, call, REFUSED);
        due(twin.get("shares"), after.get("shares"), call + ", who shares what");
    }

    /** One knocks. */
    static void knocked(int want) {
        changed(want, "knock", new int[] {0, 0, 1, 0});
    }

    /** An ask: it changes nothing at all. */
    static void asked(Object want, String call) {
        Map<String, String> after = changed(want, call, NOTHING);
        due(twin, after, call + ", all behind it");
    }

    /** A call that throws: it changes nothing and counts nothing. */
    static void thrown(String want, String call) {
        asked(want, call);
        String throwing = found("Throws `" + want.substring(7) + "`");
        if (throwing.isEmpty() && chapter.startsWith("promise")) {
            fail("the document lets " + call + " not throw so");
        }
        COVERED.add(chapter + ": " + throwing);
    }

    static void bounds(String call) {
        thrown(BOUNDS, call);
    }

    static void argument(String call) {
        thrown(ARGUMENT, call);
    }

    static void state(String call) {
        thrown(STATE, call);
    }

    /** What stands behind the scene: lines as in "w1: 3 7 10 3 abc". */
    static void stands(String... lines) {
        begin();
        for (String line : lines) {
            String name = line.substring(0, line.indexOf(": "));
            due(line, name + ": " + twin.get(name), name);
        }
    }

    private static void begin() {
        checks++;
        COVERED.add(chapter + ": " + sentence);
    }

    private static Map<String, String> changed(Object want, String call, int[] counts, String... changes) {
        begin();
        Piece piece = played();
        due(want, piece.make(call), call);
        Map<String, String> after = foundOut(piece);
        Map<String, String> right = new LinkedHashMap<>(twin);
        int rounds = 0;
        for (String change : changes) {
            int colon = change.indexOf(": ");
            if (change.startsWith("rounds: ")) {
                rounds = Integer.parseInt(change.substring(colon + 2));
            } else {
                right.put(change.substring(0, colon), change.substring(colon + 2));
            }
        }
        String[] house = twin.get("house").split(" ");
        for (int k = 0; k < 4; k++) {
            house[k] = String.valueOf(Integer.parseInt(house[k]) + counts[k] + (k == 3 ? rounds : 0));
        }
        right.put("house", String.join(" ", house));
        for (String line : new String[] {"house", "w0", "w1", "w2", "w3", "w4", "w5", "pipe", "builder", "kept"}) {
            due(right.get(line), after.get(line), call + ", " + line + " behind it");
        }
        return after;
    }

    // What the parameters let.

    /**
     * A call that is let, and for each of its parameters what is let: "win", "source", "least..most" (then
     * IllegalArgumentException is due outside), "place least..most" (IndexOutOfBoundsException), or "any".
     */
    static void ranges(String call, String... kinds) {
        String[] words = call.split(" ");
        for (int i = 0; i < kinds.length; i++) {
            if (!kinds[i].equals("any")) {
                int least = least(kinds[i]);
                int most = most(kinds[i]);
                let(with(words, i, least));
                let(with(words, i, most));
                for (int outside : new int[] {least - 1, most + 1, Integer.MIN_VALUE, Integer.MAX_VALUE}) {
                    if (outside < least || outside > most) {
                        thrown(exception(kinds[i]), String.join(" ", with(words, i, outside)));
                    }
                }
            }
        }
        mixed(words, kinds);
    }

    private static void let(String[] words) {
        begin();
        String call = String.join(" ", words);
        String told = played().tell(call);
        if (told.startsWith("throws.")) {
            fail(call + " " + told + ", but it is let");
        }
    }

    /** Several parameters at once that are not let: the exception that is named first. */
    private static void mixed(String[] words, String[] kinds) {
        for (int set = 1; set < 1 << kinds.length; set++) {
            String[] below = words.clone();
            String[] above = words.clone();
            String want = "";
            for (int i = 0; i < kinds.length; i++) {
                if ((set >> i & 1) == 1 && !kinds[i].equals("any")) {
                    below[i + 1] = String.valueOf(least(kinds[i]) - 1);
                    above[i + 1] = String.valueOf(most(kinds[i]) + 1);
                    want = want.equals(BOUNDS) ? want : exception(kinds[i]);
                }
            }
            if (!want.isEmpty()) {
                thrown(want, String.join(" ", below));
                thrown(want, String.join(" ", above));
            }
        }
    }

    private static String[] with(String[] words, int parameter, int value) {
        String[] changed = words.clone();
        changed[parameter + 1] = String.valueOf(value);
        return changed;
    }

    private static String exception(String kind) {
        return kind.equals("win") || kind.equals("source") || kind.startsWith("place ") ? BOUNDS : ARGUMENT;
    }

    private static int least(String kind) {
        return kind.contains("..") ? end(kind, 0) : 0;
    }

    private static int most(String kind) {
        return kind.contains("..") ? end(kind, 1) : kind.equals("win") ? 5 : 7;
    }

    private static int end(String kind, int which) {
        return number(kind.substring(kind.indexOf(' ') + 1).split("\\.\\.")[which]);
    }
}
