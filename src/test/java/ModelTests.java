import java.lang.reflect.InvocationTargetException;
import java.lang.reflect.Method;
import java.util.ArrayList;
import java.util.LinkedHashMap;
import java.util.List;
import java.util.Map;

/**
 * Long runs of calls, each as long as an object may be used: each answer is that of a plain model, and so is all that
 * can be found out in the end.
 */
public final class ModelTests {
    private static final int RUNS = 2000;
    private static final int CALLS = 512;

    /** Each method and the kinds of its arguments. Acts stand often, asks once. */
    private static final String[] CALLS_TO_MAKE = {
        "allocate win size", "slice win win", "slice win win", "duplicate win win", "duplicate win win",
        "part win spot spot win", "part win low spot win", "part win low spot win", "put win code", "put win code",
        "run win code code forty", "run win code flat forty", "write win number twenty", "write win number twenty",
        "write win number twenty", "get win", "get win", "read win forty", "read win low", "pour win win forty",
        "pour win win forty", "mark win", "mark win", "reset win", "reset win", "rewind win", "rewind win",
        "flip win", "flip win", "compact win", "compact win", "open win", "open win", "open win", "keep source",
        "keep win", "keep win", "load source", "load win", "load win", "build source", "build win", "turn",
        "change spot code", "change low code", "pipe pipesize", "feed number twenty", "feed number twenty",
        "drain eight", "drain eight", "pump source eight eight", "pump win eight eight", "left win two",
        "position win", "limit win", "capacity win", "marked win", "sign win spot", "look win spot", "text win four",
        "text win four", "inner win low spot low low three", "inner win low spot low spot three",
        "first source source", "last source source", "count source source", "place source source low",
        "place source source spot", "border source", "borders source", "chain source", "differ source source",
        "known source five", "held", "travelled two", "house four", "knock", "isSound", "digest"};

    private static final List<String> LAST = lastCalls();

    private static long seed;
    private static int wrong = 0;
    private static int compared = 0;

    /** A number from 0 on and below most; the same runs are made each time. */
    private static int chosen(int most) {
        seed = seed * 6364136223846793005L + 1442695040888963407L;
        return (int) ((seed >>> 33) % most);
    }

    private static int oddOne() {
        int[] odd = {-1, -2, -9, 6, 7, 8, 9, 12, 20, 21, 40, 41, 80, 81, 159, 160, 255, 256, 257, 1 << 20, -(1 << 20),
            Integer.MAX_VALUE, Integer.MAX_VALUE - 1, Integer.MIN_VALUE, Integer.MIN_VALUE + 1};
        return odd[chosen(odd.length)];
    }

    private static int argument(String kind) {
        if (chosen(40) == 0) {
            return oddOne();
        }
        switch (kind) {
            case "win":
                return chosen(6);
            case "source":
                return chosen(8);
            case "size":
                return chosen(3) == 0 ? chosen(41) : 8 + chosen(20);
            case "code":
                return chosen(4) == 0 ? chosen(256) : 97 + chosen(2);
            case "flat":
                return chosen(3) == 0 ? 1 : 0;
            case "number":
                return chosen(4) == 0 ? chosen(Integer.MAX_VALUE) : new int[] {0, 1, 4, 30, 820, 2460, 82}[chosen(7)];
            case "forty":
                return chosen(41);
            case "twenty":
                return chosen(21);
            case "eight":
                return chosen(9);
            case "pipesize":
                return chosen(2) == 0 ? 4 + chosen(5) : 1 + chosen(8);
            case "low":
                return chosen(4);
            case "spot":
                return chosen(3) == 0 ? chosen(42) - 1 : chosen(12);
            case "two":
                return chosen(2);
            case "three":
                return chosen(3);
            case "four":
                return chosen(4);
            case "five":
                return chosen(5);
            default:
                throw new IllegalStateException("no such kind: " + kind);
        }
    }

    private static Map<String, Method> methods(Class<?> of) {
        Map<String, Method> all = new LinkedHashMap<>();
        for (Method m : Sashwords.class.getMethods()) {
            if (m.getDeclaringClass() == Sashwords.class) {
                try {
                    Method found = of.getDeclaredMethod(m.getName(), m.getParameterTypes());
                    found.setAccessible(true);
                    all.put(m.getName(), found);
                } catch (NoSuchMethodException e) {
                    throw new IllegalStateException("the model has no " + m.getName());
                }
            }
        }
        return all;
    }

    private static Object answer(Method method, Object on, Object[] arguments) {
        try {
            return method.invoke(on, arguments);
        } catch (InvocationTargetException e) {
            return "throws." + e.getCause().getClass().getSimpleName();
        } catch (IllegalAccessException e) {
            throw new IllegalStateException(e);
        }
    }

    /** A run's last calls: they tell all that the calls ahead of them left, behind the limits too. */
    private static List<String> lastCalls() {
        List<String> all = new ArrayList<>();
        for (int w = 0; w < 6; w++) {
            all.addAll(List.of("marked " + w, "open " + w, "text " + w + " " + w % 4));
        }
        for (int w = 0; w < 6; w++) {
            all.addAll(List.of("run " + w + " " + 40 * w + " 1 40", "open " + w));
            for (int other = 0; other < 6; other++) {
                all.add("text " + other + " " + w % 4);
            }
        }
        all.addAll(List.of("held", "travelled 0", "travelled 1", "drain 8", "feed 0 20", "pipe 8", "pump 6 8 8",
                "pump 7 8 8", "house 0", "house 1", "house 2", "house 3", "isSound", "digest"));
        return all;
    }

    /** The calls of a run, as many as the document lets an object have. */
    private static List<String> callsOfRun(int number) {
        seed = 7919L * number + 17;
        List<String> all = new ArrayList<>();
        while (all.size() < CALLS - LAST.size()) {
            if (all.size() % 8 == 7) {
                all.add("digest");
            } else {
                StringBuilder call = new StringBuilder();
                for (String word : CALLS_TO_MAKE[chosen(CALLS_TO_MAKE.length)].split(" ")) {
                    call.append(call.length() == 0 ? word : " " + argument(word));
                }
                all.add(call.toString());
            }
        }
        all.addAll(LAST);
        return all;
    }

    private static Object[] arguments(String[] words) {
        Object[] all = new Object[words.length - 1];
        for (int i = 0; i < all.length; i++) {
            all[i] = Integer.valueOf(words[i + 1]);
        }
        return all;
    }

    private static void runOnce(int number, Map<String, Method> real, Map<String, Method> plain) {
        Sashwords x = new Sashwords();
        Model m = new Model();
        List<String> calls = callsOfRun(number);
        for (int k = 0; k < calls.size(); k++) {
            String[] words = calls.get(k).split(" ");
            Object[] arguments = arguments(words);
            Object got = answer(real.get(words[0]), x, arguments);
            Object want = answer(plain.get(words[0]), m, arguments);
            compared++;
            if (!want.equals(got)) {
                wrong++;
                System.out.println("run " + number + ", call " + (k + 1) + ": told " + got + ", due is " + want
                        + " of the last of these: " + calls.subList(Math.max(0, k - 12), k + 1));
                return;
            }
        }
    }

    public static void main(String[] args) {
        Map<String, Method> real = methods(Sashwords.class);
        Map<String, Method> plain = methods(Model.class);
        for (int number = 0; number < RUNS && wrong < 5; number++) {
            runOnce(number, real, plain);
        }
        if (compared != RUNS * CALLS && wrong == 0) {
            wrong++;
            System.out.println("ModelTests: a run has not all of its calls");
        }
        System.out.println("ModelTests: " + compared + " calls compared, " + wrong + " runs wrong");
        if (wrong != 0) {
            System.exit(1);
        }
    }

    /** What the document says, in the plainest form: texts are Strings, and words are sought by trying each place. */
    private static final class Model {
        final int[][] row = new int[6][12];
        final int[] start = new int[6];
        final int[] capacity = {12, 12, 12, 12, 12, 12};
        final int[] limit = {12, 12, 12, 12, 12, 12};
        final int[] position = new int[6];
        final int[] mark = {-9, -9, -9, -9, -9, -9};
        String built = "";
        String kept = "";
        String held = "";
        String sent = "";
        String came = "";
        int size = 4;
        final int[] house = new int[4];

        static void windows(int... wins) {
            for (int w : wins) {
                if (w < 0 || w > 5) {
                    throw new IndexOutOfBoundsException();
                }
            }
        }

        static void sources(int... whats) {
            for (int w : whats) {
                if (w < 0 || w > 7) {
                    throw new IndexOutOfBoundsException();
                }
            }
        }

        static void fits(boolean... all) {
            for (boolean one : all) {
                if (!one) {
                    throw new IllegalArgumentException();
                }
            }
        }

        static boolean within(int n, int least, int most) {
            return n >= least && n <= most;
        }

        int length(int win) {
            return limit[win] - position[win];
        }

        String textOf(int what) {
            if (what == 6) {
                return built;
            }
            if (what == 7) {
                return kept;
            }
            String text = "";
            for (int p = position[what]; p < limit[what]; p++) {
                text += (char) row[what][start[what] + p];
            }
            return text;
        }

        static int letter(int number, int k) {
            int left = number;
            for (int i = 0; i < k; i++) {
                left /= 3;
            }
            return "abc".charAt(left % 3);
        }

        void set(int win, int[] r, int s, int c, int l, int p, int m) {
            row[win] = r;
            start[win] = s;
            capacity[win] = c;
            limit[win] = l;
            position[win] = p;
            mark[win] = m;
        }

        int acted(int answer) {
            house[0]++;
            return answer;
        }

        String acted(String answer) {
            house[0]++;
            return answer;
        }

        int refused() {
            house[1]++;
            return -9;
        }

        int allocate(int win, int n) {
            windows(win);
            fits(within(n, 0, 40));
            set(win, new int[n], 0, n, n, 0, -9);
            return acted(n);
        }

        int slice(int w, int into) {
            windows(w, into);
            int n = length(w);
            set(into, row[w], start[w] + position[w], n, n, 0, -9);
            return acted(n);
        }

        int duplicate(int w, int into) {
            windows(w, into);
            set(into, row[w], start[w], capacity[w], limit[w], position[w], mark[w]);
            return acted(length(into));
        }

        int part(int w, int from, int to, int into) {
            windows(w, into);
            if (from < 0 || to < from || to > length(w)) {
                return refused();
            }
            int p = position[w];
            set(into, row[w], start[w], capacity[w], p + to, p + from, p + from);
            return acted(to - from);
        }

        void give(int win, int code) {
            row[win][start[win] + position[win]] = code;
            position[win]++;
        }

        int take(int win) {
            position[win]++;
            return row[win][start[win] + position[win] - 1];
        }

        int put(int win, int code) {
            windows(win);
            fits(within(code, 0, 255));
            if (length(win) == 0) {
                return refused();
            }
            give(win, code);
            return acted(length(win));
        }

        int run(int win, int code, int step, int many) {
            windows(win);
            fits(within(code, 0, 255), within(step, 0, 255), within(many, 0, 40));
            int n = Math.min(many, length(win));
            for (int k = 0; k < n; k++) {
                give(win, (code + k * step) & 255);
            }
            return acted(n);
        }

        int write(int win, int number, int many) {
            windows(win);
            fits(number >= 0, within(many, 0, 20));
            int n = Math.min(many, length(win));
            for (int k = 0; k < n; k++) {
                give(win, letter(number, k));
            }
            return acted(n);
        }

        int get(int win) {
            windows(win);
            return length(win) == 0 ? refused() : acted(take(win));
        }

        String read(int win, int many) {
            windows(win);
            fits(within(many, 0, 40));
            int n = Math.min(many, length(win));
            String signs = textOf(win).substring(0, n);
            position[win] += n;
            return acted(signs);
        }

        int pour(int from, int into, int most) {
            windows(from, into);
            fits(from != into, within(most, 0, 40));
            int n = Math.min(most, Math.min(length(from), length(into)));
            for (int k = 0; k < n; k++) {
                int sign = take(from);
                give(into, sign);
            }
            return acted(n);
        }

        int mark(int win) {
            windows(win);
            mark[win] = position[win];
            return acted(mark[win]);
        }

        int reset(int win) {
            windows(win);
            if (mark[win] == -9) {
                return refused();
            }
            position[win] = mark[win];
            return acted(position[win]);
        }

        int rewind(int win) {
            windows(win);
            set(win, row[win], start[win], capacity[win], limit[win], 0, -9);
            return acted(length(win));
        }

        int flip(int win) {
            windows(win);
            set(win, row[win], start[win], capacity[win], position[win], 0, -9);
            return acted(length(win));
        }

        int compact(int win) {
            windows(win);
            String text = textOf(win);
            for (int k = 0; k < text.length(); k++) {
                row[win][start[win] + k] = text.charAt(k);
            }
            set(win, row[win], start[win], capacity[win], capacity[win], text.length(), -9);
            return acted(position[win]);
        }

        int open(int win) {
            windows(win);
            set(win, row[win], start[win], capacity[win], capacity[win], 0, -9);
            return acted(capacity[win]);
        }

        int keep(int what) {
            sources(what);
            kept = textOf(what);
            return acted(kept.length());
        }

        int load(int what) {
            sources(what);
            built = textOf(what);
            return acted(built.length());
        }

        int build(int what) {
            sources(what);
            String both = built + textOf(what);
            if (both.length() > 80) {
                throw new IllegalStateException();
            }
            built = both;
            return acted(built.length());
        }

        int turn() {
            built = new StringBuilder(built).reverse().toString();
            return acted(built.length());
        }

        int change(int place, int code) {
            if (place < 0 || place >= built.length()) {
                throw new IndexOutOfBoundsException();
            }
            fits(within(code, 0, 255));
            int was = built.charAt(place);
            built = built.substring(0, place) + (char) code + built.substring(place + 1);
            return acted(was);
        }

        int pipe(int n) {
            fits(within(n, 1, 8));
            int before = held.length();
            size = n;
            held = "";
            sent = "";
            came = "";
            return acted(before);
        }

        boolean goIn(char sign) {
            if (held.length() >= size || sent.length() >= 160) {
                return false;
            }
            held += sign;
            sent += sign;
            return true;
        }

        String comeOut(int many) {
            String out = held.substring(0, Math.min(many, held.length()));
            held = held.substring(out.length());
            came += out;
            return out;
        }

        int feed(int number, int many) {
            fits(number >= 0, within(many, 0, 20));
            for (int k = 0; k < many; k++) {
                if (!goIn((char) letter(number, k))) {
                    return acted(k);
                }
            }
            return acted(many);
        }

        String drain(int many) {
            fits(within(many, 0, 8));
            return acted(comeOut(many));
        }

        String pump(int what, int in, int out) {
            sources(what);
            fits(within(in, 1, 8), within(out, 1, 8));
            String rest = textOf(what);
            if (sent.length() + rest.length() > 160) {
                throw new IllegalStateException();
            }
            String all = "";
            while (!rest.isEmpty() || !held.isEmpty()) {
                house[3]++;
                for (int k = 0; k < in && !rest.isEmpty() && goIn(rest.charAt(0)); k++) {
                    rest = rest.substring(1);
                }
                all += comeOut(out);
            }
            return acted(all);
        }

        int left(int win, int how) {
            windows(win);
            fits(within(how, 0, 1));
            return length(win);
        }

        int position(int win) {
            windows(win);
            return position[win];
        }

        int limit(int win) {
            windows(win);
            return limit[win];
        }

        int capacity(int win) {
            windows(win);
            return capacity[win];
        }

        int marked(int win) {
            windows(win);
            return mark[win];
        }

        int sign(int win, int place) {
            windows(win);
            String text = textOf(win);
            return place < 0 || place >= text.length() ? -9 : text.charAt(place);
        }

        int look(int win, int place) {
            windows(win);
            return place < 0 || place >= limit[win] ? -9 : row[win][start[win] + place];
        }

        String text(int win, int how) {
            windows(win);
            fits(within(how, 0, 3));
            return textOf(win);
        }

        String inner(int win, int a, int b, int c, int d, int how) {
            windows(win);
            String text = textOf(win);
            fits(a >= 0, a <= b, b <= text.length());
            fits(c >= 0, c <= d, d <= b - a, within(how, 0, 2));
            return text.substring(a, b).substring(c, d);
        }

        static List<Integer> places(String text, String word) {
            List<Integer> places = new ArrayList<>();
            for (int p = 0; p <= text.length(); p++) {
                if (text.startsWith(word, p)) {
                    places.add(p);
                }
            }
            return places;
        }

        static int nth(List<Integer> places, int which) {
            return which < 0 || which >= places.size() ? -1 : places.get(which);
        }

        int first(int what, int word) {
            sources(what, word);
            return textOf(what).indexOf(textOf(word));
        }

        int last(int what, int word) {
            sources(what, word);
            return textOf(what).lastIndexOf(textOf(word));
        }

        int count(int what, int word) {
            sources(what, word);
            return places(textOf(what), textOf(word)).size();
        }

        int place(int what, int word, int which) {
            sources(what, word);
            fits(within(which, 0, 80));
            return nth(places(textOf(what), textOf(word)), which);
        }

        static int greatest(String text) {
            for (int n = text.length() - 1; n > 0; n--) {
                if (text.endsWith(text.substring(0, n))) {
                    return n;
                }
            }
            return 0;
        }

        int border(int what) {
            sources(what);
            return greatest(textOf(what));
        }

        String borders(int what) {
            sources(what);
            String all = "";
            for (int n = 1; n <= textOf(what).length(); n++) {
                all += greatest(textOf(what).substring(0, n)) + " ";
            }
            return all;
        }

        String chain(int what) {
            sources(what);
            String text = textOf(what);
            String all = "";
            for (int n = text.length() - 1; n >= 0; n--) {
                if (text.endsWith(text.substring(0, n))) {
                    all += n + " ";
                }
            }
            return all;
        }

        int differ(int one, int other) {
            sources(one, other);
            String a = textOf(one);
            String b = textOf(other);
            for (int k = 0; k < Math.min(a.length(), b.length()); k++) {
                if (a.charAt(k) != b.charAt(k)) {
                    return k;
                }
            }
            return a.length() == b.length() ? -1 : Math.min(a.length(), b.length());
        }

        int known(int word, int how) {
            sources(word);
            fits(within(how, 0, 4));
            String w = textOf(word);
            int[] answers = {kept.indexOf(w), kept.lastIndexOf(w), built.indexOf(w), built.lastIndexOf(w),
                kept.contains(w) ? 1 : 0};
            return answers[how];
        }

        String held() {
            return held;
        }

        String travelled(int which) {
            fits(within(which, 0, 1));
            return which == 0 ? sent : came;
        }

        int house(int what) {
            fits(within(what, 0, 3));
            return house[what];
        }

        int knock() {
            return ++house[2];
        }

        boolean isSound() {
            return true;
        }

        long digest() {
            List<Integer> all = new ArrayList<>();
            for (int w = 0; w < 6; w++) {
                all.addAll(List.of(position[w], limit[w], capacity[w], mark[w]));
                signs(all, textOf(w));
                all.add(border(w));
                all.add(first(w, 7));
            }
            all.add(built.length());
            signs(all, built);
            all.add(kept.length());
            signs(all, kept);
            all.addAll(List.of(border(6), border(7), count(6, 7), count(7, 6), held.length()));
            signs(all, held);
            all.addAll(List.of(sent.length(), house[0], house[1], house[2], house[3], 1));
            long d = 7702;
            for (int v : all) {
                d = d * 31 + v;
            }
            return d;
        }

        static void signs(List<Integer> all, String text) {
            for (int k = 0; k < text.length(); k++) {
                all.add((int) text.charAt(k));
            }
        }
    }
}
