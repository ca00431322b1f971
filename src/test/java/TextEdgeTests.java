import java.util.ArrayList;
import java.util.List;

/**
 * The boundary cases of each sentence on texts, the pipe and the whole: sections 2 and 3, what always holds, promises
 * 18 to 26 and 36 to 50.
 */
public final class TextEdgeTests {
    private static final String TEN = "allocate 0 10; run 0 97 1 10; rewind 0";
    /** Window 0 at its place 3, of 1 to 7 of its ten: its text is "defg". */
    private static final String INSIDE = TEN + "; read 0 1; part 0 0 6 0; read 0 2";
    private static final String SEVENS = "7".repeat(40);
    /** The builder has its most, 80 signs. */
    private static final String FULL = Stage.fill(5, SEVENS) + "; load 5; build 5";
    private static final String[] NO_SOURCES = {"-1", "8", "9", "MIN", "MAX"};

    public static void main(String[] args) {
        sources();
        wordsThatLie();
        bordersAndLetters();
        pipeInGeneral();
        alwaysOfWindows();
        alwaysOfTexts();
        keep();
        load();
        build();
        turn();
        change();
        pipe();
        feed();
        feedToTheEnd();
        drain();
        pump();
        pumpRounds();
        pumpRefused();
        first();
        last();
        count();
        place();
        border();
        borders();
        chain();
        differ();
        known();
        held();
        travelled();
        house();
        knock();
        soundness();
        digest();
        Stage.finish("TextEdgeTests", chapters());
    }

    private static List<String> chapters() {
        List<String> all = new ArrayList<>(List.of("section 2", "section 3", "always"));
        for (int n = 18; n <= 50; n++) {
            if (n <= 26 || n >= 36) {
                all.add("promise " + n);
            }
        }
        return all;
    }

    private static void scene(String... lists) {
        Stage.scene(lists);
    }

    private static String fill(int win, String text) {
        return Stage.fill(win, text);
    }

    /** The calls by which the builder has a text that is too long for a window; window 5 is used for it. */
    private static String load(String text) {
        int half = text.length() / 2;
        return fill(5, text.substring(0, half)) + "; load 5; " + fill(5, text.substring(half)) + "; build 5";
    }

    // Section 2.

    private static void sources() {
        Stage.says("section 2", "There are eight SOURCES: 0 to 5 the WINDOWS of that number, 6 the BUILDER");
        StringBuilder calls = new StringBuilder();
        for (int w = 0; w < 6; w++) {
            calls.append(fill(w, "abcdef".substring(0, w + 1))).append(';');
        }
        calls.append("load 2; build 3; keep 5");
        scene(calls.toString());
        Stage.stands("builder: abcabcd", "kept: abcdef");
        String[] texts = {"a", "ab", "abc", "abcd", "abcde", "abcdef", "abcabcd", "abcdef"};
        for (int what = 0; what < 8; what++) {
            Stage.done(texts[what].length(), "keep " + what, "kept: " + texts[what]);
            Stage.done(texts[what].length(), "load " + what, "builder: " + texts[what]);
        }
        for (String outside : NO_SOURCES) {
            Stage.bounds("keep " + outside);
        }
        Stage.says("section 2", "a WINDOW that of section 1, as it is when it is asked");
        scene(INSIDE, "keep 0; load 0");
        Stage.asked(0, "first 0 6");
        Stage.done(100, "get 0", "w0: 4 7 10 1 abcdefghij");
        scene(INSIDE, "keep 0; load 0; get 0; run 0 65 0 2");
        Stage.stands("w0: 6 7 10 1 abcdAAghij", "builder: defg", "kept: defg");
        Stage.asked(3, "first 6 0");
        scene();
        Stage.stands("builder: ", "kept: ");
        Stage.says("section 2", "The BUILDER never has more than 80 SIGNS");
        scene(FULL);
        Stage.stands("builder: " + SEVENS + SEVENS);
        Stage.state("build 0");
        Stage.says("section 2", "The LENGTH of a TEXT is how many SIGNS it has");
        Stage.done(80, "keep 6", "kept: " + SEVENS + SEVENS);
        Stage.done(0, "keep 7");
        scene(INSIDE);
        Stage.done(4, "keep 0", "kept: defg");
        Stage.says("section 2", "A word is a TEXT, too");
        scene(INSIDE, "load 0; keep 0");
        for (int what : new int[] {0, 6, 7}) {
            for (int word : new int[] {0, 6, 7}) {
                Stage.asked(1, "count " + what + " " + word);
                Stage.asked(0, "first " + what + " " + word);
            }
        }
    }

    private static void wordsThatLie() {
        Stage.says("section 2", "if p and the word's LENGTH together are at most the LENGTH of the TEXT");
        lies("abcab", "ab", 0, 3);
        lies("abcab", "abc", 0);
        lies("abcab", "abcab", 0);
        lies("abcab", "abcabc");
        lies("abcab", "bcab", 1);
        lies("abcab", "abca", 0);
        lies("abcab", "ba");
        lies("abcab", "b", 1, 4);
        lies("abcab", "d");
        lies("aab", "aabaab");
        lies("", "a");
        lies("a", "aa");
        lies("\0\0\1", "\0\1", 1);
        lies("\u00ff\u007f", "\u007f", 1);
        Stage.says("section 2", "So an empty word LIES at each place of 0 to the LENGTH of the TEXT, and a word");
        lies("", "", 0);
        lies("a", "", 0, 1);
        lies("abc", "", 0, 1, 2, 3);
        lies("aaaa", "aa", 0, 1, 2);
        lies("aaaa", "aaa", 0, 1);
        lies("abababa", "aba", 0, 2, 4);
        lies("abababa", "ababa", 0, 2);
        lies("aabaabaabaa", "aabaa", 0, 3, 6);
        lies("abcabcabcab", "abcab", 0, 3, 6);
        lies("aabaaabaaaab", "aaab", 3, 8);
        lies("abaabaabaabac", "abaabac", 6);
        lies("aaaab", "aab", 2);
        lies("abacabacabad", "abacabad", 4);
    }

    /** The word lies in the text at these places and no others, whichever sources have the two. */
    private static void lies(String text, String word, int... places) {
        scene(fill(0, "#" + text), "get 0", fill(1, text + "b"), "part 1 0 " + text.length() + " 1", "load 1",
                fill(2, "ab" + word), "read 2 2; slice 2 2; duplicate 2 3; keep 3");
        for (int what : new int[] {0, 1, 6}) {
            for (int by : new int[] {2, 7}) {
                liesIn(what, by, places);
            }
        }
        scene(fill(0, text), "keep 0", fill(1, word), "load 1");
        liesIn(7, 1, places);
        liesIn(7, 6, places);
    }

    private static void liesIn(int what, int word, int... places) {
        String both = " " + what + " " + word;
        Stage.asked(places.length == 0 ? -1 : places[0], "first" + both);
        Stage.asked(places.length == 0 ? -1 : places[places.length - 1], "last" + both);
        Stage.asked(places.length, "count" + both);
        for (int k = 0; k < places.length; k++) {
            Stage.asked(places[k], "place" + both + " " + k);
        }
        Stage.asked(-1, "place" + both + " " + places.length);
        Stage.asked(-1, "place" + both + " 80");
        if (what == 6) {
            Stage.asked(places.length == 0 ? -1 : places[0], "known " + word + " 2");
            Stage.asked(places.length == 0 ? -1 : places[places.length - 1], "known " + word + " 3");
        }
        if (what == 7) {
            Stage.asked(places.length == 0 ? -1 : places[0], "known " + word + " 0");
            Stage.asked(places.length == 0 ? -1 : places[places.length - 1], "known " + word + " 1");
            Stage.asked(places.length == 0 ? 0 : 1, "known " + word + " 4");
        }
    }

    private static void bordersAndLetters() {
        Stage.says("section 2", "A BORDER of a TEXT is a number n, from 0 on and below its LENGTH");
        bordersAre("ab", "0 0 ", "0 ");
        bordersAre("aa", "0 1 ", "1 0 ");
        bordersAre("aba", "0 0 1 ", "1 0 ");
        bordersAre("aaa", "0 1 2 ", "2 1 0 ");
        bordersAre("abab", "0 0 1 2 ", "2 0 ");
        bordersAre("ababa", "0 0 1 2 3 ", "3 1 0 ");
        bordersAre("abba", "0 0 0 1 ", "1 0 ");
        bordersAre("aabaab", "0 1 0 1 2 3 ", "3 0 ");
        bordersAre("aabaaa", "0 1 0 1 2 2 ", "2 1 0 ");
        bordersAre("aabaaab", "0 1 0 1 2 2 3 ", "3 0 ");
        bordersAre("abacabad", "0 0 1 0 1 2 3 0 ", "0 ");
        bordersAre("abaabaab", "0 0 1 1 2 3 4 5 ", "5 2 0 ");
        bordersAre("\0\0", "0 1 ", "1 0 ");
        bordersAre("\u00ff\0\u00ff", "0 0 1 ", "1 0 ");
        Stage.says("section 2", "So 0 is one of each TEXT that is not empty; an empty one has none");
        bordersAre("a", "0 ", "0 ");
        bordersAre("", "", "");
        Stage.says("section 2", "The LETTER k of a number w (both from 0 on) is the SIGN 97 + (w / 3^k, rounded down)");
        scene("allocate 0 3");
        Stage.done(3, "write 0 0 3", "w0: 3 3 3 -9 aaa");
        Stage.done(3, "write 0 1 3", "w0: 3 3 3 -9 baa");
        Stage.done(3, "write 0 2 3", "w0: 3 3 3 -9 caa");
        Stage.done(3, "write 0 3 3", "w0: 3 3 3 -9 aba");
        Stage.done(3, "write 0 8 3", "w0: 3 3 3 -9 cca");
        Stage.done(3, "write 0 9 3", "w0: 3 3 3 -9 aab");
        Stage.done(3, "write 0 26 3", "w0: 3 3 3 -9 ccc");
        Stage.done(3, "write 0 27 3", "w0: 3 3 3 -9 aaa");
    }

    private static void bordersAre(String text, String all, String chain) {
        String greatest = chain.isEmpty() ? "0" : chain.substring(0, chain.indexOf(' '));
        scene(fill(0, "x" + text + "y"), "get 0; part 0 0 " + text.length() + " 0; load 0; keep 0");
        for (int what : new int[] {0, 6, 7}) {
            Stage.asked(Integer.parseInt(greatest), "border " + what);
            Stage.asked(all, "borders " + what);
            Stage.asked(chain, "chain " + what);
        }
    }

    // Section 3.

    private static void pipeInGeneral() {
        Stage.says("section 3", "The PIPE has a SIZE, 4 at first");
        scene();
        Stage.done(3, "feed 5 3", "pipe: 4 cba|cba|");
        Stage.done(4, "feed 5 4", "pipe: 4 cbaa|cbaa|");
        Stage.done(4, "feed 5 5", "pipe: 4 cbaa|cbaa|");
        Stage.says("section 3", "It HOLDS some SIGNS in a row, never more than SIZE");
        for (int size = 1; size <= 8; size++) {
            scene("pipe " + size);
            String most = "cbaaaaaa".substring(0, size);
            Stage.done(size, "feed 5 20", "pipe: " + size + " " + most + "|" + most + "|");
            Stage.done(size, "feed 5 " + size, "pipe: " + size + " " + most + "|" + most + "|");
            Stage.done(size - 1, "feed 5 " + (size - 1), "pipe: " + size + " " + most.substring(0, size - 1) + "|"
                    + most.substring(0, size - 1) + "|");
        }
        Stage.says("section 3", "SENT is the row of all SIGNS that went in, CAME that of all that came out, since");
        scene("feed 5 4; drain 2; feed 2 1; drain 1");
        Stage.stands("pipe: 4 ac|cbaac|cba");
        Stage.says("section 3", "At first and when it is made new it HOLDS none, and SENT and CAME are empty");
        Stage.done(2, "pipe 4", "pipe: 4 ||");
        Stage.done(2, "pipe 8", "pipe: 8 ||");
        scene();
        Stage.stands("pipe: 4 ||");
        Stage.says("section 3", "if fewer than SIZE are HELD and SENT has fewer than 160 SIGNS");
        scene("pipe 2; feed 5 1");
        Stage.done(1, "feed 2 2", "pipe: 2 cc|cc|");
        scene("pipe 2; feed 5 2");
        Stage.done(0, "feed 2 1");
        Stage.says("section 3", "the first one HELD is taken away and is the last one of CAME then");
        scene("feed 5 3; drain 1; feed 2 2");
        Stage.done("b", "drain 1", "pipe: 4 aca|cbaca|cb");
        Stage.done("baca", "drain 8", "pipe: 4 |cbaca|cbaca");
        scene();
        Stage.done("", "drain 1");
    }

    // What always holds.

    private static void alwaysOfWindows() {
        Stage.says("always", "0 <= MARK <= POSITION <= LIMIT <= CAPACITY");
        scene("mark 0; part 1 12 12 1; read 2 12; mark 2; allocate 3 0; mark 3; slice 2 4");
        Stage.stands("w0: 0 12 12 0 ............", "w1: 12 12 12 12 ............", "w2: 12 12 12 12 ............",
                "w3: 0 0 0 0 ", "w4: 0 0 0 -9 ");
        Stage.says("always", "the SIGN k of its TEXT is that at its place POSITION + k, by each road of asking");
        scene(INSIDE, "slice 0 1; get 1; part 1 0 2 2");
        int[] positions = {3, 1, 1};
        String[] texts = {"defg", "efg", "ef"};
        for (int w = 0; w < 3; w++) {
            for (int k = 0; k < texts[w].length(); k++) {
                Stage.asked((int) texts[w].charAt(k), "sign " + w + " " + k);
                Stage.asked((int) texts[w].charAt(k), "look " + w + " " + (positions[w] + k));
                Stage.asked(texts[w].substring(k, k + 1), "inner " + w + " " + k + " " + (k + 1) + " 0 1 " + k % 3);
            }
            for (int how = 0; how <= 3; how++) {
                Stage.asked(texts[w], "text " + w + " " + how);
            }
        }
        deepWindows();
        Stage.says("always", "seen at once by each other one over the same ROW, at the place due and at no other one");
        scene(TEN, "duplicate 0 1; read 0 4; slice 0 2; part 0 2 6 3; get 2; slice 2 4; flip 0");
        Stage.done(4, "put 4 88", "w0: 0 4 10 -9 abcdeXghij", "w1: 0 10 10 -9 abcdeXghij", "w2: 1 6 6 -9 eXghij",
                "w3: 6 10 10 6 abcdeXghij", "w4: 1 5 5 -9 Xghij");
        Stage.done(3, "run 0 65 1 3", "w0: 3 4 10 -9 ABCdefghij", "w1: 0 10 10 -9 ABCdefghij",
                "w3: 6 10 10 6 ABCdefghij");
        Stage.done(11, "put 5 88", "w5: 1 12 12 -9 X...........");
        scene(TEN, "duplicate 0 1; allocate 0 10; allocate 2 10; keep 1; load 1");
        Stage.done(10, "run 1 65 1 40", "w1: 10 10 10 -9 ABCDEFGHIJ");
        Stage.done(10, "run 0 65 1 40", "w0: 10 10 10 -9 ABCDEFGHIJ");
        Stage.says("always", "compacting moves just the rest to the front of its own WINDOW");
        scene(TEN, "read 0 2; slice 0 1; read 1 3; part 1 1 4 2; slice 1 3");
        Stage.done(3, "compact 2", "w0: 2 10 10 -9 abghifghij", "w1: 3 8 8 -9 ghifghij", "w2: 3 8 8 -9 ghifghij");
        Stage.done(0, "part 3 5 5 3", "w3: 5 5 5 5 fghij");
        Stage.says("always", "a call that is refused changes no WINDOW and no SIGN");
        scene(TEN, "read 0 10; duplicate 0 1");
        Stage.nine("put 0 88");
        Stage.nine("get 0");
        Stage.nine("part 0 0 1 1");
        Stage.nine("reset 0");
        Stage.argument("run 1 88 1 41");
    }

    private static void deepWindows() {
        Stage.says("always", "however deep, lies where the sums tell, and a PART of a PART is the one by sums");
        StringBuilder slices = new StringBuilder("allocate 0 40; run 0 65 1 40; rewind 0");
        for (int depth = 0; depth < 39; depth++) {
            slices.append("; get ").append(depth % 2).append("; slice ").append(depth % 2).append(' ');
            slices.append(1 - depth % 2);
        }
        scene(slices.toString(), "open 1");
        Stage.stands("w1: 0 1 1 -9 h");
        Stage.done(0, "put 1 88", "w0: 1 2 2 -9 gX", "w1: 1 1 1 -9 X");
        StringBuilder parts = new StringBuilder("allocate 0 40; run 0 65 1 40; rewind 0");
        for (int depth = 0; depth < 19; depth++) {
            parts.append("; part ").append(depth % 6).append(" 1 ").append(39 - 2 * depth).append(' ');
            parts.append((depth + 1) % 6);
        }
        scene(parts.toString());
        Stage.stands("w1: 19 21 40 19 ABCDEFGHIJKLMNOPQRSTUVWXYZ[\\]^_`abcdefgh");
        Stage.asked("TU", "text 1 0");
        scene(INSIDE);
        for (int a = 0; a <= 4; a++) {
            for (int b = a; b <= 4; b++) {
                for (int c = 0; c <= b - a; c++) {
                    String spots = "inner 0 " + a + " " + b + " " + c + " " + (b - a) + " ";
                    Stage.asked("defg".substring(a + c, b), spots + 0);
                    Stage.asked("defg".substring(a + c, b), spots + 1);
                    Stage.asked("defg".substring(a + c, b), spots + 2);
                }
            }
        }
    }

    private static void alwaysOfTexts() {
        Stage.says("always", "a word is found at the same places in a WINDOW, in the text that grows and in the one");
        lies("abaababaabaab", "abaab", 0, 5, 8);
        lies("cacaoacacaoca", "caoca", 8);
        lies("cacaoacacao", "cacao", 0, 6);
        Stage.says("always", "taken of itself again and again, gives all beginnings that are ends and no others");
        bordersAre("abaababaabaababaababa", "0 0 1 1 2 3 2 3 4 5 6 4 5 6 7 8 9 10 11 7 8 ", "8 3 1 0 ");
        Stage.says("always", "what went into the PIPE is what came out and behind that what is HELD, whole");
        scene(TEN, "pipe 3; feed 5 2; pump 0 2 1; feed 7 3; drain 1; feed 2 1; drain 2; feed 26 20");
        Stage.stands("pipe: 3 ccc|cbabcdefghijbcaccc|cbabcdefghijbca");
        alwaysOfAsks();
    }

    private static void alwaysOfAsks() {
        Stage.says("always", "and what is asked changes nothing");
        scene(INSIDE, "load 0; keep 0; feed 5 3; drain 1; knock; reset 3; reset 0");
        Stage.asked(6, "left 0 1");
        Stage.asked(1, "position 0");
        Stage.asked(7, "limit 0");
        Stage.asked(10, "capacity 0");
        Stage.asked(1, "marked 0");
        Stage.asked(99, "sign 0 1");
        Stage.asked(98, "look 0 1");
        for (int how = 0; how <= 3; how++) {
            Stage.asked("bcdefg", "text 0 " + how);
            Stage.asked("cd", "inner 0 0 4 1 3 " + how % 3);
        }
        Stage.asked(2, "first 0 7");
        Stage.asked(2, "last 0 7");
        Stage.asked(1, "count 0 7");
        Stage.asked(2, "place 0 7 0");
        Stage.asked(0, "border 0");
        Stage.asked("0 0 0 0 0 0 ", "borders 0");
        Stage.asked("0 ", "chain 0");
        Stage.asked(0, "differ 0 7");
        Stage.asked(-1, "known 0 0");
        Stage.asked(0, "known 7 3");
        Stage.asked("ba", "held");
        Stage.asked("cba", "travelled 0");
        Stage.asked("c", "travelled 1");
        Stage.asked(11, "house 0");
        Stage.asked(1, "house 1");
        Stage.asked(1, "house 2");
        Stage.asked(0, "house 3");
        Stage.asked(true, "isSound");
    }

    // The builder and the kept text.

    private static void keep() {
        Stage.says(18, "The KEPT text becomes the TEXT that a SOURCE has now");
        scene(INSIDE, "keep 0; run 0 65 0 2");
        Stage.stands("kept: defg");
        Stage.done(2, "keep 0", "kept: fg");
        Stage.done(4, "keep 7");
        scene(fill(0, "abc"), "load 0; keep 6; change 1 88");
        Stage.stands("kept: abc", "builder: aXc");
        Stage.done(3, "keep 6", "kept: aXc");
        Stage.done(3, "turn", "builder: cXa");
        Stage.says(18, "Returns its LENGTH");
        scene(FULL, "allocate 0 0; allocate 1 1; allocate 2 40; keep 5");
        Stage.done(0, "keep 0", "kept: ");
        Stage.done(1, "keep 1", "kept: .");
        Stage.done(40, "keep 2", "kept: " + ".".repeat(40));
        Stage.done(80, "keep 6", "kept: " + SEVENS + SEVENS);
        Stage.done(40, "keep 7");
        scene(FULL, "keep 6");
        Stage.done(80, "keep 7");
        Stage.done(12, "keep 0", "kept: ............");
        Stage.ranges("keep 1", "source");
    }

    private static void load() {
        Stage.says(19, "The BUILDER becomes the TEXT that a SOURCE has now (it stays, if that is the BUILDER)");
        scene(INSIDE, "load 0; run 0 65 0 2");
        Stage.stands("builder: defg");
        Stage.done(2, "load 0", "builder: fg");
        Stage.done(4, "load 6");
        scene(fill(0, "abc"), "keep 0; load 7; change 1 88");
        Stage.stands("kept: abc", "builder: aXc");
        Stage.done(3, "load 7", "builder: abc");
        Stage.says(19, "Returns its LENGTH");
        scene(FULL, "allocate 0 0; allocate 1 1; allocate 2 40; keep 6");
        Stage.done(0, "load 0", "builder: ");
        Stage.done(1, "load 1", "builder: .");
        Stage.done(40, "load 2", "builder: " + ".".repeat(40));
        Stage.done(80, "load 6");
        Stage.done(80, "load 7");
        scene(FULL, "keep 6; load 0");
        Stage.done(80, "load 7", "builder: " + SEVENS + SEVENS);
        scene();
        Stage.done(0, "load 6");
        Stage.done(0, "load 7");
        Stage.ranges("load 1", "source");
    }

    private static void build() {
        Stage.says(20, "comes behind what the BUILDER has (if that is the BUILDER, it has its TEXT twice then)");
        scene(INSIDE, "keep 0; get 0; build 0");
        Stage.done(7, "build 7", "builder: efgdefg");
        Stage.done(6, "build 0", "builder: efgefg");
        Stage.done(6, "build 6", "builder: efgefg");
        scene(INSIDE, "build 0; put 0 88");
        Stage.stands("builder: defg");
        Stage.says(20, "Returns the BUILDER's LENGTH then");
        scene("allocate 0 0; allocate 1 40");
        Stage.done(0, "build 6");
        Stage.done(0, "build 0");
        Stage.done(0, "build 7");
        Stage.done(40, "build 1", "builder: " + ".".repeat(40));
        scene(fill(0, SEVENS), "load 0");
        Stage.done(80, "build 6", "builder: " + SEVENS + SEVENS);
        Stage.done(80, "build 0", "builder: " + SEVENS + SEVENS);
        Stage.says(20, "Throws `IllegalStateException` if it would have more than 80 SIGNS");
        scene(FULL, "allocate 0 0; allocate 1 1; allocate 2 40; keep 6");
        Stage.done(80, "build 0");
        Stage.state("build 1");
        Stage.state("build 2");
        Stage.state("build 6");
        Stage.state("build 7");
        for (String outside : NO_SOURCES) {
            Stage.bounds("build " + outside);
        }
        buildToTheEnd();
        scene(INSIDE);
        Stage.ranges("build 0", "source");
    }

    private static void buildToTheEnd() {
        String seventyNine = SEVENS + SEVENS.substring(1);
        scene(fill(5, SEVENS), "load 5; get 5; build 5; allocate 0 0; allocate 1 1; allocate 2 2; keep 1");
        Stage.stands("builder: " + seventyNine);
        Stage.done(79, "build 0", "builder: " + seventyNine);
        Stage.done(80, "build 1", "builder: " + seventyNine + ".");
        Stage.done(80, "build 7", "builder: " + seventyNine + ".");
        Stage.state("build 2");
        Stage.state("build 6");
        scene(fill(5, SEVENS), "load 5; allocate 1 1; build 1; keep 6");
        Stage.state("build 6");
        Stage.state("build 7");
        Stage.done(42, "build 1", "builder: " + SEVENS + "..");
        scene(fill(5, SEVENS), "load 5; allocate 1 1; build 1; get 5");
        Stage.done(80, "build 5", "builder: " + SEVENS + "." + SEVENS.substring(1));
    }

    private static void turn() {
        Stage.says(21, "The BUILDER's SIGNS stand the other way round");
        scene(fill(0, "abcd"), "load 0; keep 0");
        Stage.done(4, "turn", "builder: dcba");
        scene(fill(0, "abcde"), "load 0");
        Stage.done(5, "turn", "builder: edcba");
        scene(fill(0, "ab"), "load 0; turn");
        Stage.stands("builder: ba");
        Stage.done(2, "turn", "builder: ab");
        Stage.says(21, "Returns its LENGTH");
        scene();
        Stage.done(0, "turn");
        scene(fill(0, "a"), "load 0");
        Stage.done(1, "turn");
        scene(load(SEVENS.substring(1) + "ab" + SEVENS.substring(2) + "x"));
        Stage.done(80, "turn", "builder: x" + SEVENS.substring(2) + "ba" + SEVENS.substring(1));
    }

    private static void change() {
        Stage.says(22, "A SIGN of the BUILDER becomes another one (or the same)");
        scene(fill(0, "abc"), "load 0; keep 6");
        Stage.done(97, "change 0 88", "builder: Xbc");
        Stage.done(98, "change 1 88", "builder: aXc");
        Stage.done(99, "change 2 88", "builder: abX");
        Stage.done(98, "change 1 98");
        Stage.done(98, "change 1 0", "builder: a.c");
        Stage.done(98, "change 1 255", "builder: a<255>c");
        Stage.says(22, "Returns what it was");
        scene(fill(0, "\u00ff\0"), "load 0");
        Stage.done(255, "change 0 97", "builder: a.");
        Stage.done(0, "change 1 97", "builder: <255>a");
        Stage.says(22, "Throws `IndexOutOfBoundsException` if place is not from 0 on and below the LENGTH");
        Stage.ranges("change 0 97", "place 0..1", "0..255");
        scene();
        Stage.bounds("change 0 97");
        Stage.bounds("change 0 256");
        Stage.bounds("change -1 -1");
        scene(fill(0, "abc"), "load 0", fill(1, "x"), "load 1");
        Stage.ranges("change 0 97", "place 0..0", "0..255");
        scene(FULL);
        Stage.ranges("change 0 97", "place 0..79", "0..255");
        Stage.done(55, "change 79 97", "builder: " + SEVENS + SEVENS.substring(1) + "a");
        Stage.done(55, "change 0 97", "builder: a" + SEVENS.substring(1) + SEVENS);
    }

    // The pipe.

    private static void pipe() {
        Stage.says(23, "The PIPE is made new (section 3) with that SIZE");
        scene("feed 5 4; drain 1");
        for (int size = 1; size <= 8; size++) {
            Stage.done(3, "pipe " + size, "pipe: " + size + " ||");
        }
        Stage.says(23, "Returns how many SIGNS were HELD ahead of the call");
        for (int held = 0; held <= 8; held++) {
            scene("pipe 8; feed 0 " + held);
            Stage.done(held, "pipe 1", "pipe: 1 ||");
        }
        scene("feed 5 4; drain 4");
        Stage.done(0, "pipe 4", "pipe: 4 ||");
        scene("pipe 8; feed 5 8; drain 1; pipe 2; feed 5 20; pipe 8");
        Stage.done(8, "feed 1 20", "pipe: 8 baaaaaaa|baaaaaaa|");
        scene("feed 5 3");
        Stage.ranges("pipe 3", "1..8");
    }

    private static void feed() {
        Stage.says(24, "The LETTERS 0, 1, .. of a number go in, as long as fewer than many went in this call");
        scene("pipe 8");
        Stage.done(3, "feed 5 3", "pipe: 8 cba|cba|");
        Stage.done(8, "feed MAX 8", "pipe: 8 babcacab|babcacab|");
        Stage.done(8, "feed MAX 20", "pipe: 8 babcacab|babcacab|");
        Stage.done(8, "feed 0 20", "pipe: 8 aaaaaaaa|aaaaaaaa|");
        Stage.done(8, "feed 6560 20", "pipe: 8 cccccccc|cccccccc|");
        Stage.done(8, "feed 2187 20", "pipe: 8 aaaaaaab|aaaaaaab|");
        Stage.done(1, "feed 2 1", "pipe: 8 c|c|");
        scene("pipe 8; feed 5 7");
        Stage.done(1, "feed 7 1", "pipe: 8 cbaaaaab|cbaaaaab|");
        Stage.done(1, "feed 7 2", "pipe: 8 cbaaaaab|cbaaaaab|");
        Stage.says(24, "Returns how many went in");
        Stage.done(0, "feed 7 0");
        scene("pipe 8; feed 5 8");
        Stage.done(0, "feed 7 20");
        Stage.done(0, "feed 7 0");
        scene("pipe 1; feed 2 1; drain 1");
        Stage.done(1, "feed 4 20", "pipe: 1 b|cb|c");
        scene("feed 5 1");
        Stage.ranges("feed 5 3", "0..MAX", "0..20");
        scene("feed 5 20");
        Stage.ranges("feed 5 3", "0..MAX", "0..20");
    }

    /** What was sent is 160 signs at most. The size that the pipe is found to have is what goes in still. */
    private static void feedToTheEnd() {
        Stage.says(24, "and the next one can");
        String sent = SEVENS.repeat(4).substring(1);
        scene(FULL, "pipe 8; pump 6 8 8; pump 5 8 8; get 5; pump 5 8 8");
        Stage.stands("pipe: 1 |" + sent + "|" + sent);
        Stage.done(1, "feed 5 1", "pipe: 0 c|" + sent + "c|" + sent);
        Stage.done(1, "feed 5 20", "pipe: 0 c|" + sent + "c|" + sent);
        Stage.done(0, "feed 5 0");
        scene(FULL, "pipe 8; pump 6 8 8; pump 5 8 8; get 5; pump 5 8 8; feed 5 20");
        Stage.done(0, "feed 5 20");
        Stage.done("c", "drain 8", "pipe: 0 |" + sent + "c|" + sent + "c");
        scene(FULL, "pipe 8; pump 6 8 8; pump 6 8 8");
        Stage.done(0, "feed 5 20");
        Stage.done("", "drain 8");
        Stage.argument("feed -1 1");
        Stage.argument("feed 5 21");
        Stage.done(0, "pipe 8", "pipe: 8 ||");
        scene(FULL, "pipe 8; pump 6 8 8; pump 6 8 8; pipe 2");
        Stage.done(2, "feed 5 20", "pipe: 2 cb|cb|");
    }

    private static void drain() {
        Stage.says(25, "SIGNS come out, as long as fewer than many came in this call and one is HELD");
        scene("feed 7 4; drain 1");
        Stage.done("c", "drain 1", "pipe: 4 aa|bcaa|bc");
        Stage.done("ca", "drain 2", "pipe: 4 a|bcaa|bca");
        Stage.done("caa", "drain 3", "pipe: 4 |bcaa|bcaa");
        Stage.done("caa", "drain 4", "pipe: 4 |bcaa|bcaa");
        Stage.done("caa", "drain 8", "pipe: 4 |bcaa|bcaa");
        Stage.says(25, "Returns these SIGNS");
        Stage.done("", "drain 0");
        scene("pipe 8; feed MAX 8");
        Stage.done("babcacab", "drain 8", "pipe: 8 |babcacab|babcacab");
        Stage.done("babcaca", "drain 7", "pipe: 8 b|babcacab|babcaca");
        scene("feed 7 4; drain 4");
        Stage.done("", "drain 8");
        Stage.done("", "drain 0");
        scene("feed 5 2");
        Stage.ranges("drain 1", "0..8");
        scene();
        Stage.ranges("drain 1", "0..8");
    }

    private static void pump() {
        Stage.says(26, "The TEXT of a SOURCE (which stays as it is) goes through the PIPE, in rounds");
        scene(INSIDE, "load 0; turn; keep 6; rewind 0; read 0 3");
        Stage.done("defg", "pump 0 8 8", "pipe: 4 |defg|defg", "rounds: 1");
        Stage.done("gfed", "pump 6 8 8", "pipe: 4 |gfed|gfed", "rounds: 1");
        Stage.done("gfed", "pump 7 8 8", "pipe: 4 |gfed|gfed", "rounds: 1");
        Stage.says(26, "Returns all SIGNS that came out in this call, in order");
        scene(INSIDE, "feed 5 4; drain 1");
        Stage.done("baadefg", "pump 0 1 1", "pipe: 4 |cbaadefg|cbaadefg", "rounds: 7");
        scene("allocate 0 0; feed 5 3");
        Stage.done("cba", "pump 0 8 8", "pipe: 4 |cba|cba", "rounds: 1");
        scene(FULL);
        Stage.done(SEVENS + SEVENS, "pump 6 8 8", "pipe: 4 |" + SEVENS + SEVENS + "|" + SEVENS + SEVENS,
                "rounds: 20");
    }

    private static void pumpRounds() {
        Stage.says(26, "There is a round (counted by house()), as long as something is left of the TEXT, or HELD");
        scene("allocate 0 0; keep 0");
        Stage.done("", "pump 0 1 1");
        Stage.done("", "pump 6 8 8");
        Stage.done("", "pump 7 8 8");
        scene("allocate 0 0; feed 5 3");
        Stage.done("cba", "pump 0 1 1", "pipe: 4 |cba|cba", "rounds: 3");
        Stage.done("cba", "pump 0 8 2", "pipe: 4 |cba|cba", "rounds: 2");
        Stage.done("cba", "pump 0 1 3", "pipe: 4 |cba|cba", "rounds: 1");
        scene(fill(0, "x"));
        Stage.done("x", "pump 0 8 8", "pipe: 4 |x|x", "rounds: 1");
        Stage.says(26, "go in, as long as fewer than in went in this round, there is one left of the TEXT, and fewer");
        roundsOfTen("pipe 4", "pump 0 8 1", 10);
        roundsOfTen("pipe 4", "pump 0 1 8", 10);
        roundsOfTen("pipe 4", "pump 0 3 2", 5);
        roundsOfTen("pipe 4", "pump 0 8 8", 3);
        roundsOfTen("pipe 4", "pump 0 4 4", 3);
        roundsOfTen("pipe 4", "pump 0 2 3", 5);
        roundsOfTen("pipe 8", "pump 0 8 8", 2);
        roundsOfTen("pipe 8", "pump 0 8 7", 2);
        roundsOfTen("pipe 8", "pump 0 8 3", 4);
        roundsOfTen("pipe 8", "pump 0 5 8", 2);
        roundsOfTen("pipe 8", "pump 0 5 4", 3);
        roundsOfTen("pipe 1", "pump 0 8 8", 10);
        roundsOfTen("pipe 1", "pump 0 1 1", 10);
        roundsOfTen("pipe 3", "pump 0 2 1", 10);
        // Full at first: the first round lets in none and out three, then three in and out, then one in and two out.
        scene(INSIDE, "feed 0 4");
        Stage.done("aaaadefg", "pump 0 8 3", "pipe: 4 |aaaadefg|aaaadefg", "rounds: 3");
        scene(INSIDE, "feed 0 3");
        Stage.done("aaadefg", "pump 0 8 8", "pipe: 4 |aaadefg|aaadefg", "rounds: 2");
        Stage.done("aaadefg", "pump 0 1 8", "pipe: 4 |aaadefg|aaadefg", "rounds: 4");
        scene(INSIDE, "feed 0 4; knock; pump 0 8 3; pump 0 8 3");
        Stage.stands("house: 9 0 1 5");
    }

    private static void roundsOfTen(String pipe, String pump, int rounds) {
        scene(TEN, pipe);
        String size = pipe.substring(5);
        Stage.done("abcdefghij", pump, "pipe: " + size + " |abcdefghij|abcdefghij", "rounds: " + rounds);
    }

    private static void pumpRefused() {
        Stage.says(26, "Throws `IllegalStateException` if the LENGTHS of SENT and of the TEXT together are more than");
        String all = SEVENS.repeat(4);
        scene(FULL, "pipe 8; pump 6 8 8; allocate 0 0; allocate 1 1; read 5 1; pump 5 8 8");
        Stage.done("7".repeat(39), "pump 5 8 8", "pipe: 2 |" + all.substring(2) + "|" + all.substring(2), "rounds: 5");
        Stage.state("pump 6 8 8");
        scene(FULL, "pipe 8; pump 6 8 8; feed 0 1; allocate 0 0; load 5; build 5");
        Stage.state("pump 6 1 1");
        Stage.argument("pump 6 9 1");
        Stage.argument("pump 6 1 0");
        Stage.bounds("pump 8 1 1");
        Stage.bounds("pump 8 9 0");
        scene(FULL, "pipe 8; pump 6 8 8; pump 5 8 8; get 5; pump 5 8 8; allocate 0 0; allocate 1 1; allocate 2 2");
        Stage.done("", "pump 0 1 1");
        Stage.done("\0", "pump 1 8 8", "pipe: 0 |" + shown(all, ".") + "|" + shown(all, "."), "rounds: 1");
        Stage.state("pump 2 8 8");
        Stage.state("pump 6 8 8");
        scene(FULL, "pipe 8; pump 6 8 8");
        Stage.done(SEVENS + SEVENS, "pump 6 8 8", "pipe: 0 |" + all + "|" + all, "rounds: 10");
        scene(FULL, "pipe 8; pump 6 8 8; pump 5 8 8; get 5; pump 5 8 8; feed 0 1; allocate 0 0; allocate 1 1");
        Stage.done("a", "pump 0 1 1", "pipe: 0 |" + shown(all, "a") + "|" + shown(all, "a"), "rounds: 1");
        Stage.state("pump 1 1 1");
        scene(INSIDE);
        Stage.ranges("pump 0 1 1", "source", "1..8", "1..8");
        scene(INSIDE, "feed 5 4");
        Stage.ranges("pump 0 8 8", "source", "1..8", "1..8");
    }

    /** All but the last one of the signs, and this one behind them. */
    private static String shown(String signs, String last) {
        return signs.substring(1) + last;
    }

    // The asks of texts.

    private static void first() {
        Stage.says(36, "Returns the first place at which the word LIES; -1 if there is none");
        scene(fill(0, "cabab"), fill(1, "ab"), fill(2, "ba"), fill(3, "bb"), "allocate 4 0");
        Stage.asked(1, "first 0 1");
        Stage.asked(2, "first 0 2");
        Stage.asked(-1, "first 0 3");
        Stage.asked(0, "first 0 4");
        Stage.asked(0, "first 4 4");
        Stage.asked(-1, "first 4 1");
        Stage.asked(-1, "first 1 0");
        Stage.asked(0, "first 0 0");
        longest("first", 0, 0, -1, 0);
        Stage.ranges("first 0 1", "source", "source");
    }

    private static void last() {
        Stage.says(37, "Returns the last place at which the word LIES; -1 if there is none");
        scene(fill(0, "cabab"), fill(1, "ab"), fill(2, "ba"), fill(3, "bb"), "allocate 4 0");
        Stage.asked(3, "last 0 1");
        Stage.asked(2, "last 0 2");
        Stage.asked(-1, "last 0 3");
        Stage.asked(5, "last 0 4");
        Stage.asked(0, "last 4 4");
        Stage.asked(-1, "last 4 1");
        Stage.asked(-1, "last 1 0");
        Stage.asked(0, "last 0 0");
        longest("last", 0, 40, -1, 80);
        Stage.ranges("last 0 1", "source", "source");
    }

    private static void count() {
        Stage.says(38, "Returns at how many places the word LIES");
        scene(fill(0, "cabab"), fill(1, "ab"), fill(2, "ba"), fill(3, "bb"), "allocate 4 0");
        Stage.asked(2, "count 0 1");
        Stage.asked(1, "count 0 2");
        Stage.asked(0, "count 0 3");
        Stage.asked(6, "count 0 4");
        Stage.asked(1, "count 4 4");
        Stage.asked(0, "count 4 1");
        Stage.asked(0, "count 1 0");
        Stage.asked(1, "count 0 0");
        longest("count", 1, 41, 0, 81);
        Stage.ranges("count 0 1", "source", "source");
    }

    /** In the full builder: of itself, of its half, of a word that is a sign longer, of an empty word. */
    private static void longest(String ask, int itself, int half, int longer, int empty) {
        scene(FULL, "allocate 0 0; keep 6");
        Stage.asked(itself, ask + " 6 6");
        Stage.asked(itself, ask + " 6 7");
        Stage.asked(itself, ask + " 7 6");
        Stage.asked(half, ask + " 6 5");
        Stage.asked(half, ask + " 7 5");
        Stage.asked(empty, ask + " 6 0");
        Stage.asked(empty, ask + " 7 0");
        scene(FULL, "keep 6; get 5; load 5; build 5; allocate 0 1; run 0 55 0 1; rewind 0; build 0");
        Stage.asked(longer, ask + " 6 7");
        Stage.asked(longer, ask + " 5 7");
        Stage.asked(longer, ask + " 5 6");
    }

    private static void place() {
        Stage.says(39, "Returns that one of the places at which the word LIES; -1 if there are not more than which");
        scene(fill(0, "cababab"), fill(1, "ab"), fill(2, "bb"), "allocate 3 0");
        int[] due = {1, 3, 5, -1, -1};
        for (int which = 0; which < due.length; which++) {
            Stage.asked(due[which], "place 0 1 " + which);
            Stage.asked(-1, "place 0 2 " + which);
            Stage.asked(which, "place 0 3 " + which);
            Stage.asked(which == 0 ? 0 : -1, "place 0 0 " + which);
            Stage.asked(which == 0 ? 0 : -1, "place 3 3 " + which);
        }
        Stage.asked(7, "place 0 3 7");
        Stage.asked(-1, "place 0 3 8");
        scene(FULL, "allocate 0 0; allocate 1 1; run 1 55 0 1; rewind 1; keep 6");
        Stage.asked(79, "place 6 0 79");
        Stage.asked(80, "place 6 0 80");
        Stage.asked(80, "place 7 0 80");
        Stage.asked(79, "place 6 1 79");
        Stage.asked(-1, "place 6 1 80");
        Stage.asked(40, "place 6 5 40");
        Stage.asked(-1, "place 6 5 41");
        scene(fill(0, "cabab"), fill(1, "ab"));
        Stage.ranges("place 0 1 0", "source", "source", "0..80");
    }

    private static void border() {
        Stage.says(40, "Returns the greatest BORDER of its TEXT; 0 if it is empty");
        scene(FULL, "allocate 0 0", fill(1, "x"), fill(2, "abcab"), fill(3, "ab"), "keep 0");
        Stage.asked(0, "border 0");
        Stage.asked(0, "border 1");
        Stage.asked(2, "border 2");
        Stage.asked(0, "border 3");
        Stage.asked(39, "border 5");
        Stage.asked(79, "border 6");
        Stage.asked(0, "border 7");
        Stage.ranges("border 2", "source");
    }

    private static void borders() {
        Stage.says(41, "Returns for each n from 1 to the LENGTH, in rising order, the greatest BORDER");
        scene(FULL, "allocate 0 0", fill(1, "x"), fill(2, "abcab"), "keep 0");
        StringBuilder all = new StringBuilder();
        for (int n = 0; n < 80; n++) {
            all.append(n).append(' ');
        }
        Stage.asked("", "borders 0");
        Stage.asked("0 ", "borders 1");
        Stage.asked("0 0 0 1 2 ", "borders 2");
        Stage.asked(all.toString(), "borders 6");
        Stage.asked(all.substring(0, all.indexOf(" 40 ") + 1), "borders 5");
        Stage.asked("", "borders 7");
        // What was found of a longer text counts in no way for a shorter one that is asked for next.
        scene(FULL, fill(0, "aaab"), "borders 6; chain 6; count 6 6");
        Stage.asked("0 1 2 0 ", "borders 0");
        Stage.asked("0 ", "chain 0");
        Stage.asked(1, "count 0 0");
        Stage.ranges("borders 0", "source");
    }

    private static void chain() {
        Stage.says(42, "Returns all BORDERS of its TEXT, the greatest one first, with \" \" behind each one");
        scene(FULL, "allocate 0 0", fill(1, "x"), fill(2, "ababa"), "keep 0");
        StringBuilder all = new StringBuilder();
        for (int n = 79; n >= 0; n--) {
            all.append(n).append(' ');
        }
        Stage.asked("", "chain 0");
        Stage.asked("0 ", "chain 1");
        Stage.asked("3 1 0 ", "chain 2");
        Stage.asked(all.toString(), "chain 6");
        Stage.asked(all.substring(all.indexOf("39 ")), "chain 5");
        Stage.asked("", "chain 7");
        Stage.ranges("chain 0", "source");
    }

    private static void differ() {
        Stage.says(43, "Returns the least k such that just one of the two TEXTS has a SIGN k, or both have and these");
        scene(fill(0, "abc"), fill(1, "abd"), fill(2, "ab"), "allocate 3 0", fill(4, "xbc"), fill(5, "ab\0"));
        Stage.asked(2, "differ 0 1");
        Stage.asked(2, "differ 1 0");
        Stage.asked(2, "differ 0 2");
        Stage.asked(2, "differ 2 0");
        Stage.asked(2, "differ 2 5");
        Stage.asked(2, "differ 5 2");
        Stage.asked(0, "differ 0 3");
        Stage.asked(0, "differ 3 0");
        Stage.asked(0, "differ 0 4");
        Stage.asked(-1, "differ 0 0");
        Stage.asked(-1, "differ 3 3");
        Stage.asked(-1, "differ 3 6");
        Stage.asked(-1, "differ 6 7");
        Stage.asked(0, "differ 7 0");
        scene(FULL, "keep 6; change 79 97");
        Stage.asked(79, "differ 6 7");
        Stage.asked(40, "differ 6 5");
        Stage.asked(40, "differ 5 7");
        scene(FULL, "keep 6");
        Stage.asked(-1, "differ 6 7");
        scene(fill(0, "abc"), fill(1, "xabc"), "get 1");
        Stage.asked(-1, "differ 0 1");
        Stage.ranges("differ 0 1", "source", "source");
    }

    private static void known() {
        Stage.says(44, "Returns that place at which the word LIES, -1 if there is none; of 4: 1 if it does");
        scene(fill(0, "xabab"), "keep 0", fill(0, "yyabyab"), "load 0", fill(1, "ab"), fill(2, "q"), "allocate 3 0");
        knownAre(1, 1, 3, 2, 5, 1);
        knownAre(2, -1, -1, -1, -1, 0);
        knownAre(3, 0, 5, 0, 7, 1);
        knownAre(6, -1, -1, 0, 0, 0);
        knownAre(7, 0, 0, -1, -1, 1);
        Stage.ranges("known 1 0", "source", "0..4");
        scene(fill(1, "ab"), "allocate 3 0");
        knownAre(1, -1, -1, -1, -1, 0);
        knownAre(3, 0, 0, 0, 0, 1);
        knownAre(6, 0, 0, 0, 0, 1);
        knownAre(7, 0, 0, 0, 0, 1);
        scene(FULL, "keep 6; allocate 3 0");
        knownAre(5, 0, 40, 0, 40, 1);
        knownAre(3, 0, 80, 0, 80, 1);
        knownAre(6, 0, 0, 0, 0, 1);
    }

    private static void knownAre(int word, int... answers) {
        for (int how = 0; how < answers.length; how++) {
            Stage.asked(answers[how], "known " + word + " " + how);
        }
    }

    // The asks of the pipe and of the whole.

    private static void held() {
        Stage.says(45, "Returns the SIGNS HELD, in order");
        scene();
        Stage.asked("", "held");
        scene("pipe 8; feed MAX 8");
        Stage.asked("babcacab", "held");
        scene("pipe 8; feed MAX 8; drain 3; feed 2 2");
        Stage.asked("cacabca", "held");
        scene("feed 5 4; drain 8");
        Stage.asked("", "held");
    }

    private static void travelled() {
        Stage.says(46, "Returns that row of SIGNS");
        scene();
        Stage.asked("", "travelled 0");
        Stage.asked("", "travelled 1");
        scene("feed 5 4; drain 1");
        Stage.asked("cbaa", "travelled 0");
        Stage.asked("c", "travelled 1");
        scene(FULL, "pump 6 8 8; pump 6 8 8");
        Stage.asked(SEVENS.repeat(4), "travelled 0");
        Stage.asked(SEVENS.repeat(4), "travelled 1");
        Stage.ranges("travelled 0", "0..1");
    }

    private static void house() {
        Stage.says(47, "Returns that");
        scene();
        for (int what = 0; what <= 3; what++) {
            Stage.asked(0, "house " + what);
        }
        scene("get 0; get 0; get 0; get 0; reset 0; reset 1; reset 2; knock; knock; feed 0 1; pump 6 1 1");
        Stage.asked(6, "house 0");
        Stage.asked(3, "house 1");
        Stage.asked(2, "house 2");
        Stage.asked(1, "house 3");
        scene("rewind 0;".repeat(180) + "reset 0;".repeat(180));
        Stage.asked(180, "house 0");
        Stage.asked(180, "house 1");
        scene(FULL, "pump 6 1 1; pump 6 1 1");
        Stage.asked(160, "house 3");
        Stage.ranges("house 0", "0..3");
    }

    private static void knock() {
        Stage.says(48, "Knocks");
        scene("get 0; reset 0");
        Stage.knocked(1);
        Stage.says(48, "Returns how often one knocked, with this");
        scene("knock; get 0; reset 0; knock; held");
        Stage.knocked(3);
        scene("knock;".repeat(300));
        Stage.knocked(301);
    }

    private static void soundness() {
        Stage.says(49, "Returns whether all of this is so");
        scene();
        Stage.asked(true, "isSound");
        scene(INSIDE, "slice 0 1; get 1; load 0; keep 1; part 0 4 4 2; allocate 3 0; feed 5 4; drain 1");
        Stage.asked(true, "isSound");
        scene(FULL, "keep 6; pipe 8; pump 6 8 8; pump 6 8 8");
        Stage.asked(true, "isSound");
        scene(FULL, "allocate 0 1; run 0 55 0 1; rewind 0; keep 0; mark 0; mark 1; read 1 12");
        Stage.asked(true, "isSound");
    }

    private static void digest() {
        // Each look at what is found out of an object reckons the digest anew; these two stand for the start of it.
        Stage.says(50, "Computes a checksum");
        scene();
        Stage.asked(-2344241609769775293L, "digest");
        Stage.says(50, "A number d starts with 7702; then d becomes d * 31 + v, which wraps around as a 64");
        scene("allocate 0 0; allocate 1 0; allocate 2 0; allocate 3 0; allocate 4 0; allocate 5 0");
        Stage.asked(-5023283064756167865L, "digest");
        Stage.says(50, "Returns d");
        scene(INSIDE, "load 0; keep 0; build 0; reset 5; knock; feed 5 4; drain 1; pump 0 1 1; feed 7 4; drain 2");
        Stage.stands("sound: true");
    }
}
