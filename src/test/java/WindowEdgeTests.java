import java.util.ArrayList;
import java.util.List;

/** The boundary cases of each sentence on rows, windows and refusals: sections 1 and 4, promises 1 to 17, 27 to 35. */
public final class WindowEdgeTests {
    private static final String TEN = "allocate 0 10; run 0 97 1 10; rewind 0";
    /** Window 0 at its place 3 with the mark there, of 1 to 7 of its ten. */
    private static final String INSIDE = TEN + "; read 0 1; part 0 0 6 0; read 0 2; mark 0";
    private static final String ONE_LEFT = TEN + "; read 0 3; flip 0; read 0 2";
    private static final String NONE_LEFT = TEN + "; read 0 3; flip 0; read 0 3";

    public static void main(String[] args) {
        signs();
        rows();
        windowsAreSix();
        windowsOfWindows();
        readingAndWriting();
        refusals();
        countsOfActs();
        orderOfExceptions();
        newObject();
        allocate();
        slice();
        duplicate();
        part();
        put();
        run();
        write();
        get();
        read();
        pour();
        mark();
        reset();
        rewind();
        flip();
        compact();
        open();
        left();
        bounds();
        sign();
        look();
        text();
        inner();
        Stage.finish("WindowEdgeTests", chapters());
    }

    private static List<String> chapters() {
        List<String> all = new ArrayList<>(List.of("section 1", "section 4"));
        for (int n = 1; n <= 35; n++) {
            if (n <= 17 || n >= 27) {
                all.add("promise " + n);
            }
        }
        return all;
    }

    private static void scene(String... lists) {
        Stage.scene(lists);
    }

    // Section 1.

    private static void signs() {
        Stage.says("section 1", "A SIGN is a whole number of 0 to 255; in a String it is the char of that number");
        scene("allocate 0 5; put 0 0; put 0 255; put 0 128; put 0 127; put 0 1; rewind 0; load 0; keep 0");
        String all = "\0\u00ff\u0080\u007f\1";
        for (int how = 0; how <= 3; how++) {
            Stage.asked(all, "text 0 " + how);
        }
        Stage.asked(0, "sign 0 0");
        Stage.asked(255, "sign 0 1");
        Stage.asked(255, "look 0 1");
        Stage.asked(128, "look 0 2");
        Stage.done(all, "read 0 5", "w0: 5 5 5 -9 .<255><128><127><1>");
        Stage.done(0, "get 0", "w0: 1 5 5 -9 .<255><128><127><1>");
        Stage.stands("builder: .<255><128><127><1>", "kept: .<255><128><127><1>");
        scene("allocate 0 2; put 0 255; rewind 0");
        Stage.done(255, "get 0", "w0: 1 2 2 -9 <255>.");
    }

    private static void rows() {
        Stage.says("section 1", "it never becomes longer or shorter, and its places are counted from 0");
        scene("allocate 0 3; run 0 97 1 3");
        Stage.nine("put 0 100");
        Stage.done(0, "run 0 100 1 40");
        scene("allocate 0 3; run 0 97 1 3; rewind 0; duplicate 0 1; read 0 2; slice 0 0; allocate 0 0");
        Stage.stands("w1: 0 3 3 -9 abc");
        Stage.asked(97, "look 1 0");
        Stage.asked(99, "look 1 2");
        Stage.says("section 1", "Each lies over one ROW; several may lie over the same ROW");
        scene(TEN, "duplicate 0 1; duplicate 1 2; part 2 0 10 3; slice 3 4; duplicate 4 5");
        String[] all = {"w0: 0 10 10 -9 abcdefghiZ", "w1: 0 10 10 -9 abcdefghiZ", "w2: 0 10 10 -9 abcdefghiZ",
            "w3: 0 10 10 0 abcdefghiZ", "w4: 0 10 10 -9 abcdefghiZ", "w5: 0 10 10 -9 abcdefghiZ"};
        for (int w = 0; w < 6; w++) {
            scene(TEN, "duplicate 0 1; duplicate 1 2; part 2 0 10 3; slice 3 4; duplicate 4 5; read " + w + " 9");
            String[] lines = all.clone();
            lines[w] = lines[w].replace(": 0", ": 10");
            Stage.done(0, "put " + w + " 90", lines);
        }
        Stage.says("section 1", "A WINDOW has a START, a CAPACITY, a LIMIT, a POSITION, and a MARK or none");
        scene(INSIDE, "slice 0 1");
        Stage.stands("w0: 3 7 10 3 abcdefghij", "w1: 0 4 4 -9 defg");
    }

    private static void windowsAreSix() {
        Stage.says("section 1", "There are six WINDOWS, 0 to 5");
        for (int w = 0; w < 6; w++) {
            scene();
            Stage.done(11, "put " + w + " 88", "w" + w + ": 1 12 12 -9 X...........");
        }
        Stage.bounds("put 6 88");
        Stage.bounds("put -1 88");
        Stage.says("section 1", "At first each of the six is a NEW one of 12");
        scene();
        for (int w = 0; w < 6; w++) {
            Stage.stands("w" + w + ": 0 12 12 -9 ............");
        }
        Stage.says("section 1", "A NEW WINDOW of n lies over a ROW of its own of n SIGNS, all 0");
        scene(TEN, "duplicate 0 1; mark 0; read 0 4");
        Stage.done(10, "allocate 0 10", "w0: 0 10 10 -9 ..........");
        Stage.done(0, "allocate 0 0", "w0: 0 0 0 -9 ");
        scene(TEN, "duplicate 0 1; allocate 0 10; allocate 2 10");
        Stage.done(9, "put 0 88", "w0: 1 10 10 -9 X.........");
        Stage.done(9, "put 2 88", "w2: 1 10 10 -9 X.........");
        Stage.done(9, "put 1 88", "w1: 1 10 10 -9 Xbcdefghij");
        Stage.says("section 1", "Its place p, of 0 to CAPACITY - 1, is the place START + p of its ROW");
        scene(TEN, "read 0 3; slice 0 1; read 1 2; slice 1 2");
        Stage.stands("w2: 0 5 5 -9 fghij");
        Stage.asked(102, "look 2 0");
        Stage.asked(106, "look 2 4");
        Stage.asked(-9, "look 2 5");
        Stage.asked(-9, "look 2 -1");
        Stage.done(4, "put 2 88", "w0: 3 10 10 -9 abcdeXghij", "w1: 2 7 7 -9 deXghij", "w2: 1 5 5 -9 Xghij");
        scene(TEN, "read 0 3; slice 0 1; read 1 2; slice 1 2; read 2 4");
        Stage.done(0, "put 2 88", "w0: 3 10 10 -9 abcdefghiX", "w1: 2 7 7 -9 defghiX", "w2: 5 5 5 -9 fghiX");
        Stage.says("section 1", "Its LENGTH is LIMIT - POSITION");
        scene(INSIDE, "allocate 1 40; allocate 2 0");
        Stage.asked(4, "left 0 0");
        Stage.asked(40, "left 1 0");
        Stage.asked(0, "left 2 0");
        Stage.says("section 1", "Its TEXT is the SIGNS at its places POSITION to LIMIT - 1");
        Stage.asked("defg", "text 0 0");
        Stage.asked(100, "sign 0 0");
        Stage.asked(103, "sign 0 3");
        Stage.asked(-9, "sign 0 4");
    }

    private static void windowsOfWindows() {
        Stage.says("section 1", "that ROW and all other WINDOWS stay as they are");
        scene(TEN, "mark 0; read 0 2; duplicate 0 1; read 2 5; mark 2");
        Stage.done(5, "allocate 0 5", "w0: 0 5 5 -9 .....");
        Stage.done(7, "slice 2 0", "w0: 0 7 7 -9 .......");
        Stage.done(7, "duplicate 2 0", "w0: 5 12 12 5 ............");
        Stage.done(2, "part 2 1 3 0", "w0: 6 8 12 6 ............");
        scene(TEN, "mark 0; read 0 2; duplicate 0 1; read 2 5; mark 2; slice 2 0; run 0 65 1 7");
        Stage.stands("w1: 2 10 10 0 abcdefghij", "w2: 5 12 12 5 .....ABCDEFG");
        Stage.says("section 1", "It may be made of itself: what it was ahead of the call counts then");
        scene(TEN, "read 0 3; mark 0; get 0");
        Stage.done(6, "slice 0 0", "w0: 0 6 6 -9 efghij");
        Stage.done(6, "duplicate 0 0");
        Stage.done(2, "part 0 1 3 0", "w0: 5 7 10 5 abcdefghij");
        Stage.done(0, "part 0 6 6 0", "w0: 10 10 10 10 abcdefghij");
        scene(TEN, "read 0 3; slice 0 0; get 0");
        Stage.done(6, "slice 0 0", "w0: 0 6 6 -9 efghij");
        Stage.done(3, "part 0 1 4 0", "w0: 2 5 7 2 defghij");
        scene(TEN, "read 0 3; slice 0 0; get 0; slice 0 0; part 0 1 4 0; slice 0 0");
        Stage.stands("w0: 0 3 3 -9 fgh");
    }

    private static void readingAndWriting() {
        Stage.says("section 1", "To READ is to take the SIGN at the place POSITION; then POSITION is 1 more");
        scene(INSIDE);
        Stage.done(100, "get 0", "w0: 4 7 10 3 abcdefghij");
        Stage.says("section 1", "To WRITE a SIGN is to put it at the place POSITION");
        scene(INSIDE, "duplicate 0 1");
        Stage.done(3, "put 0 88", "w0: 4 7 10 3 abcXefghij", "w1: 3 7 10 3 abcXefghij");
        Stage.says("section 1", "Both can be done just while LENGTH is above 0");
        scene(ONE_LEFT);
        Stage.done(99, "get 0", "w0: 3 3 10 -9 abcdefghij");
        Stage.done(0, "put 0 88", "w0: 3 3 10 -9 abXdefghij");
        Stage.done("c", "read 0 2", "w0: 3 3 10 -9 abcdefghij");
        Stage.done(1, "run 0 88 1 2", "w0: 3 3 10 -9 abXdefghij");
        Stage.done(1, "write 0 4 2", "w0: 3 3 10 -9 abbdefghij");
        Stage.done(1, "pour 0 1 2", "w0: 3 3 10 -9 abcdefghij", "w1: 1 12 12 -9 c...........");
        Stage.done(1, "pour 1 0 2", "w0: 3 3 10 -9 ab.defghij", "w1: 1 12 12 -9 ............");
        scene(NONE_LEFT);
        Stage.nine("get 0");
        Stage.nine("put 0 88");
        Stage.done("", "read 0 1");
        Stage.done(0, "run 0 88 1 1");
        Stage.done(0, "write 0 4 1");
        Stage.done(0, "pour 0 1 1");
        Stage.done(0, "pour 1 0 1");
    }

    // Section 4.

    private static void refusals() {
        Stage.says("section 4", "it changes nothing but the count of such refusals");
        scene(NONE_LEFT, "part 0 0 0 1; rewind 1; keep 1; load 1; feed 7 3; drain 1");
        Stage.nine("part 0 0 1 1");
        Stage.nine("part 1 2 1 1");
        Stage.nine("put 0 1");
        Stage.nine("get 0");
        Stage.nine("reset 0");
        scene(NONE_LEFT, "get 0; get 0; put 0 1; part 0 0 1 0; reset 0");
        Stage.stands("house: 6 5 0 0");
        Stage.says("section 4", "Where an ASK tells -9, there is no such thing; it changes nothing at all");
        Stage.asked(-9, "marked 0");
        Stage.asked(-9, "sign 0 0");
        Stage.asked(-9, "sign 0 -1");
        Stage.asked(-9, "look 0 3");
        Stage.asked(-9, "look 0 -1");
        Stage.says("section 4", "A method that throws an exception changes nothing and counts nothing");
        scene(INSIDE, "load 0; keep 0; build 7; pipe 3; feed 5 2; knock; knock; reset 5");
        Stage.bounds("allocate 6 3");
        Stage.argument("allocate 0 41");
        Stage.argument("run 0 88 1 41");
        Stage.argument("pour 0 1 41");
        Stage.argument("write 0 4 21");
        Stage.argument("read 0 41");
        Stage.bounds("change 8 88");
        Stage.argument("change 0 256");
        Stage.argument("pipe 9");
        Stage.argument("feed 4 21");
        Stage.argument("drain 9");
        Stage.argument("pump 0 1 9");
        Stage.bounds("slice 0 6");
        Stage.bounds("duplicate 0 6");
        Stage.bounds("part 0 0 1 6");
        scene(INSIDE, "allocate 0 40; load 0; build 0; pipe 3; feed 5 2");
        Stage.state("build 1");
        scene(INSIDE, "allocate 0 40; load 0; build 0; pump 6 8 8; feed 5 2; drain 1");
        Stage.state("pump 6 1 1");
    }

    private static void countsOfActs() {
        Stage.says("section 4", "was done, also if all stays as it was (house() by 0)");
        scene();
        for (String call : new String[] {"rewind 0", "open 0", "duplicate 0 0", "duplicate 0 1", "slice 0 0"}) {
            Stage.done(12, call);
        }
        for (String call : new String[] {"run 0 1 1 0", "write 0 1 0", "pour 0 1 0", "keep 6",
            "keep 7", "load 6", "load 7", "build 6", "build 7", "turn", "pipe 4", "feed 1 0"}) {
            Stage.done(0, call);
        }
        Stage.done("", "read 0 0");
        Stage.done("", "drain 0");
        Stage.done("", "drain 8");
        Stage.done("", "pump 6 1 1");
        scene("allocate 0 0; mark 1; load 2");
        Stage.done(0, "flip 0");
        Stage.done(0, "compact 0");
        Stage.done(0, "mark 1");
        Stage.done(0, "reset 1");
        Stage.done(0, "change 11 0");
        Stage.says("section 4", "the others are ASKS, but knock(), which is neither");
        everyActIsCounted();
        scene();
        Stage.knocked(1);
        for (String call : asks()) {
            scene();
            asksCountNothing(call);
        }
    }

    private static void everyActIsCounted() {
        String[] acts = {"allocate 0 9", "slice 0 1", "duplicate 0 2", "part 0 0 1 3", "put 0 1", "run 0 1 1 1",
            "write 0 1 1", "get 0", "read 0 1", "pour 0 1 1", "mark 0", "reset 0", "rewind 0", "flip 0", "compact 0",
            "open 0", "keep 3", "load 3", "build 3", "turn", "change 0 1", "pipe 2", "feed 1 1", "drain 1",
            "pump 3 1 1"};
        StringBuilder calls = new StringBuilder();
        for (int k = 0; k < acts.length; k++) {
            calls.append(acts[k]).append(';');
            scene(calls.toString());
            Stage.asked(k + 1, "house 0");
            Stage.asked(0, "house 1");
        }
    }

    private static String[] asks() {
        return new String[] {"left 0 0", "position 0", "limit 0", "capacity 0", "marked 0", "sign 0 0", "look 0 0",
            "text 0 2", "inner 0 0 2 0 1 2", "first 0 1", "last 0 1", "count 0 1", "place 0 1 0", "border 0",
            "borders 0", "chain 0", "differ 0 1", "known 0 0", "held", "travelled 0", "house 0", "isSound", "digest"};
    }

    private static void asksCountNothing(String call) {
        scene(call + ";" + call);
        Stage.stands("house: 0 0 0 0");
    }

    private static void orderOfExceptions() {
        Stage.says("section 4", "the one that is named first is thrown; exceptions go ahead of -9");
        scene(NONE_LEFT);
        Stage.bounds("put 6 256");
        Stage.argument("put 0 256");
        Stage.argument("put 0 -1");
        Stage.bounds("part 0 0 1 6");
        Stage.bounds("part 0 1 0 -1");
        Stage.bounds("part 6 -1 0 0");
        Stage.bounds("get 6");
        Stage.bounds("reset 6");
        Stage.bounds("sign 6 -1");
        Stage.bounds("look -1 -1");
        Stage.bounds("change 0 256");
        Stage.bounds("place 8 0 81");
        Stage.bounds("inner 6 1 0 1 0 3");
        Stage.bounds("pump 8 0 9");
        scene("allocate 0 40; load 0; build 0; pump 6 8 8");
        Stage.bounds("pump 8 9 9");
        Stage.argument("pump 6 9 1");
        Stage.argument("pump 6 1 0");
        Stage.bounds("build 8");
        Stage.says("section 4", "that is of each parameter before it that tells such a thing");
        scene();
        Stage.bounds("slice 6 0");
        Stage.bounds("slice 0 6");
        Stage.bounds("pour 6 0 1");
        Stage.bounds("pour 0 6 1");
        Stage.argument("run 0 256 0 0");
        Stage.argument("run 0 0 256 0");
        Stage.bounds("differ 8 0");
        Stage.bounds("differ 0 8");
        Stage.argument("pump 0 0 1");
        Stage.argument("pump 0 1 0");
    }

    // The acts.

    private static void newObject() {
        Stage.says(1, "Creates six NEW WINDOWS of 12, an empty BUILDER, an empty KEPT text and a PIPE of SIZE 4");
        scene();
        String fresh = ": 0 12 12 -9 ............";
        Stage.stands("w0" + fresh, "w1" + fresh, "w2" + fresh, "w3" + fresh, "w4" + fresh, "w5" + fresh, "builder: ",
                "kept: ", "pipe: 4 ||", "house: 0 0 0 0");
        Stage.done(4, "feed 0 20", "pipe: 4 aaaa|aaaa|");
        for (int w = 0; w < 6; w++) {
            scene();
            Stage.done(12, "run " + w + " 97 1 40", "w" + w + ": 12 12 12 -9 abcdefghijkl");
        }
    }

    private static void allocate() {
        Stage.says(2, "A WINDOW becomes a NEW one (section 1) of so many SIGNS");
        scene(INSIDE);
        Stage.done(0, "allocate 0 0", "w0: 0 0 0 -9 ");
        Stage.done(1, "allocate 0 1", "w0: 0 1 1 -9 .");
        Stage.done(10, "allocate 0 10", "w0: 0 10 10 -9 ..........");
        Stage.done(40, "allocate 0 40", "w0: 0 40 40 -9 " + ".".repeat(40));
        scene(INSIDE, "slice 0 0");
        Stage.done(4, "allocate 0 4", "w0: 0 4 4 -9 ....");
        Stage.says(2, "Returns its LENGTH then");
        scene();
        Stage.done(39, "allocate 5 39", "w5: 0 39 39 -9 " + ".".repeat(39));
        scene(INSIDE);
        Stage.ranges("allocate 0 5", "win", "0..40");
    }

    private static void slice() {
        Stage.says(3, "with START that one's START + POSITION, CAPACITY and LIMIT that one's LENGTH");
        scene(INSIDE, "read 1 4; mark 1");
        Stage.done(4, "slice 0 1", "w1: 0 4 4 -9 defg");
        Stage.done(4, "slice 0 0", "w0: 0 4 4 -9 defg");
        scene(INSIDE, "slice 0 1; get 1");
        Stage.done(3, "slice 1 1", "w1: 0 3 3 -9 efg");
        Stage.done(3, "slice 1 2", "w2: 0 3 3 -9 efg");
        Stage.done(2, "put 1 88", "w0: 3 7 10 3 abcdXfghij", "w1: 2 4 4 -9 dXfg");
        Stage.says(3, "Returns its LENGTH then");
        scene(NONE_LEFT);
        Stage.done(0, "slice 0 1", "w1: 0 0 0 -9 ");
        scene(TEN, "read 0 10");
        Stage.done(0, "slice 0 0", "w0: 0 0 0 -9 ");
        scene("allocate 0 0");
        Stage.done(0, "slice 0 0");
        Stage.done(0, "slice 0 1", "w1: 0 0 0 -9 ");
        scene("allocate 0 40; run 0 65 1 40; open 0");
        Stage.done(40, "slice 0 1", "w1: 0 40 40 -9 ABCDEFGHIJKLMNOPQRSTUVWXYZ[\\]^_`abcdefgh");
        scene("allocate 0 40; run 0 65 1 40; open 0; read 0 39");
        Stage.done(1, "slice 0 1", "w1: 0 1 1 -9 h");
        scene(INSIDE);
        Stage.ranges("slice 0 1", "win", "win");
    }

    private static void duplicate() {
        Stage.says(4, "with the same START, CAPACITY, LIMIT, POSITION and MARK (or none)");
        scene(INSIDE, "get 0; slice 0 2; get 2");
        Stage.done(3, "duplicate 0 1", "w1: 4 7 10 3 abcdefghij");
        Stage.done(2, "duplicate 2 0", "w0: 1 3 3 -9 efg");
        Stage.done(2, "duplicate 2 2");
        scene(INSIDE, "duplicate 0 1; rewind 0");
        Stage.done(7, "duplicate 0 1", "w1: 0 7 10 -9 abcdefghij");
        scene("mark 0; allocate 1 0; mark 2; get 2");
        Stage.done(12, "duplicate 0 3", "w3: 0 12 12 0 ............");
        Stage.done(0, "duplicate 1 0", "w0: 0 0 0 -9 ");
        Stage.done(11, "duplicate 2 1", "w1: 1 12 12 0 ............");
        Stage.says(4, "From then on each has its own");
        scene(INSIDE, "duplicate 0 1");
        Stage.done(100, "get 0", "w0: 4 7 10 3 abcdefghij");
        Stage.done(100, "get 1", "w1: 4 7 10 3 abcdefghij");
        Stage.done(3, "flip 0", "w0: 0 3 10 -9 abcdefghij");
        Stage.done(10, "open 1", "w1: 0 10 10 -9 abcdefghij");
        Stage.done(4, "slice 1 1", "w1: 0 4 4 -9 defg");
        scene(INSIDE, "duplicate 0 1; get 1");
        Stage.done(4, "mark 1", "w1: 4 7 10 4 abcdefghij");
        Stage.says(4, "Returns its LENGTH then");
        scene(NONE_LEFT);
        Stage.done(0, "duplicate 0 1", "w1: 3 3 10 -9 abcdefghij");
        scene("allocate 0 40");
        Stage.done(40, "duplicate 0 1", "w1: 0 40 40 -9 " + ".".repeat(40));
        scene(INSIDE);
        Stage.ranges("duplicate 0 1", "win", "win");
    }

    private static void part() {
        Stage.says(5, "with the same START and CAPACITY, POSITION that one's POSITION + from");
        scene(INSIDE);
        Stage.done(2, "part 0 1 3 1", "w1: 4 6 10 4 abcdefghij");
        scene(INSIDE, "get 0; slice 0 2; get 2");
        Stage.done(2, "part 2 0 2 3", "w3: 1 3 3 1 efg");
        Stage.done(1, "part 2 1 2 2", "w2: 2 3 3 2 efg");
        scene(INSIDE, "get 0; slice 0 2; get 2; part 2 1 2 3");
        Stage.done(0, "put 3 88", "w0: 4 7 10 3 abcdefXhij", "w2: 1 3 3 -9 efX", "w3: 3 3 3 2 efX");
        scene(TEN, "part 0 1 9 1; part 1 1 7 1; part 1 1 5 1; part 1 1 3 1");
        Stage.stands("w1: 4 6 10 4 abcdefghij");
        Stage.says(5, "Returns its LENGTH then; -9 if it is not so that 0 <= from <= to <= the LENGTH of win");
        scene(INSIDE);
        Stage.done(4, "part 0 0 4 0", "w0: 3 7 10 3 abcdefghij");
        Stage.done(4, "part 0 0 4 1", "w1: 3 7 10 3 abcdefghij");
        Stage.done(0, "part 0 0 0 1", "w1: 3 3 10 3 abcdefghij");
        Stage.done(0, "part 0 4 4 1", "w1: 7 7 10 7 abcdefghij");
        Stage.done(1, "part 0 3 4 1", "w1: 6 7 10 6 abcdefghij");
        Stage.done(0, "part 0 2 2 1", "w1: 5 5 10 5 abcdefghij");
        for (String outside : new String[] {"0 5", "5 5", "4 5", "-1 0", "-1 4", "-1 -1", "1 0", "4 3", "4 0", "0 -1",
            "0 7", "0 10", "MIN 0", "MIN MAX", "MAX MAX", "MIN MIN", "0 MAX", "0 MIN", "MAX 0", "MAX MIN", "-3 -3"}) {
            Stage.nine("part 0 " + outside + " 0");
            Stage.nine("part 0 " + outside + " 1");
        }
        scene(NONE_LEFT);
        Stage.done(0, "part 0 0 0 1", "w1: 3 3 10 3 abcdefghij");
        Stage.nine("part 0 0 1 1");
        Stage.nine("part 0 1 1 1");
        Stage.nine("part 0 -1 0 1");
        scene(INSIDE);
        Stage.ranges("part 0 1 2 1", "win", "any", "any", "win");
        Stage.ranges("part 0 -1 9 1", "win", "any", "any", "win");
    }

    private static void put() {
        Stage.says(6, "WRITES a SIGN");
        scene(INSIDE);
        Stage.done(3, "put 0 0", "w0: 4 7 10 3 abc.efghij");
        Stage.done(3, "put 0 255", "w0: 4 7 10 3 abc<255>efghij");
        Stage.done(3, "put 0 100", "w0: 4 7 10 3 abcdefghij");
        Stage.says(6, "Returns the LENGTH then; -9 if the LENGTH is 0");
        scene(ONE_LEFT);
        Stage.done(0, "put 0 88", "w0: 3 3 10 -9 abXdefghij");
        scene(NONE_LEFT);
        Stage.nine("put 0 88");
        Stage.nine("put 0 100");
        scene("allocate 0 0");
        Stage.nine("put 0 0");
        scene("allocate 0 40");
        Stage.done(39, "put 0 88", "w0: 1 40 40 -9 X" + ".".repeat(39));
        scene("allocate 0 40; run 0 65 0 40");
        Stage.nine("put 0 88");
        scene(INSIDE);
        Stage.ranges("put 0 88", "win", "0..255");
        scene(NONE_LEFT);
        Stage.ranges("put 0 88", "win", "0..255");
    }

    private static void run() {
        Stage.says(7, "as long as fewer than many are and the LENGTH is above 0; the k-th one, k from 0, is");
        scene(INSIDE);
        Stage.done(3, "run 0 65 2 3", "w0: 6 7 10 3 abcACEghij");
        Stage.done(4, "run 0 65 2 4", "w0: 7 7 10 3 abcACEGhij");
        Stage.done(4, "run 0 65 2 5", "w0: 7 7 10 3 abcACEGhij");
        Stage.done(4, "run 0 254 1 40", "w0: 7 7 10 3 abc<254><255>.<1>hij");
        Stage.done(2, "run 0 255 255 2", "w0: 5 7 10 3 abc<255><254>fghij");
        Stage.done(3, "run 0 0 255 3", "w0: 6 7 10 3 abc.<255><254>ghij");
        Stage.done(3, "run 0 0 128 3", "w0: 6 7 10 3 abc.<128>.ghij");
        Stage.done(2, "run 0 88 0 2", "w0: 5 7 10 3 abcXXfghij");
        scene("allocate 0 40; run 0 255 255 40");
        for (int k = 0; k < 40; k++) {
            Stage.asked(255 - k, "look 0 " + k);
        }
        scene("allocate 0 40; run 0 200 100 40");
        for (int k = 0; k < 40; k++) {
            Stage.asked((200 + 100 * k) % 256, "look 0 " + k);
        }
        Stage.says(7, "Returns how many it wrote");
        scene("allocate 0 40");
        Stage.done(40, "run 0 88 0 40", "w0: 40 40 40 -9 " + "X".repeat(40));
        Stage.done(39, "run 0 88 0 39", "w0: 39 40 40 -9 " + "X".repeat(39) + ".");
        Stage.done(1, "run 0 88 5 1", "w0: 1 40 40 -9 X" + ".".repeat(39));
        Stage.done(0, "run 0 88 5 0");
        scene(NONE_LEFT);
        Stage.done(0, "run 0 88 5 40");
        Stage.done(0, "run 0 88 5 0");
        scene(INSIDE);
        Stage.ranges("run 0 97 1 3", "win", "0..255", "0..255", "0..40");
        scene(NONE_LEFT);
        Stage.ranges("run 0 97 1 3", "win", "0..255", "0..255", "0..40");
    }

    private static void write() {
        Stage.says(8, "WRITES the LETTERS 0, 1, .. of a number, as long as fewer than many are");
        scene(INSIDE);
        Stage.done(3, "write 0 5 3", "w0: 6 7 10 3 abccbaghij");
        Stage.done(4, "write 0 5 4", "w0: 7 7 10 3 abccbaahij");
        Stage.done(4, "write 0 80 5", "w0: 7 7 10 3 abccccchij");
        Stage.done(4, "write 0 81 20", "w0: 7 7 10 3 abcaaaahij");
        Stage.done(1, "write 0 5 1", "w0: 4 7 10 3 abccefghij");
        scene("allocate 0 40");
        Stage.done(20, "write 0 0 20", "w0: 20 40 40 -9 " + "a".repeat(20) + ".".repeat(20));
        // 2^31 - 1 is 12112122212110202101 in base 3, and 3^19, the last letter's weight, is 1162261467.
        Stage.done(20, "write 0 MAX 20", "w0: 20 40 40 -9 babcacabbcbcccbcbbcb" + ".".repeat(20));
        Stage.done(20, "write 0 1162261467 20", "w0: 20 40 40 -9 " + "a".repeat(19) + "b" + ".".repeat(20));
        Stage.done(20, "write 0 1162261466 20", "w0: 20 40 40 -9 " + "c".repeat(19) + "a" + ".".repeat(20));
        Stage.done(19, "write 0 MAX 19", "w0: 19 40 40 -9 babcacabbcbcccbcbbc" + ".".repeat(21));
        Stage.says(8, "Returns how many it wrote");
        Stage.done(0, "write 0 MAX 0");
        scene(NONE_LEFT);
        Stage.done(0, "write 0 5 20");
        Stage.done(0, "write 0 5 0");
        scene(ONE_LEFT);
        Stage.done(1, "write 0 2 20", "w0: 3 3 10 -9 abcdefghij");
        scene(INSIDE);
        Stage.ranges("write 0 5 3", "win", "0..MAX", "0..20");
        scene(NONE_LEFT);
        Stage.ranges("write 0 5 3", "win", "0..MAX", "0..20");
    }

    private static void get() {
        Stage.says(9, "READS a SIGN");
        scene(INSIDE);
        Stage.done(100, "get 0", "w0: 4 7 10 3 abcdefghij");
        Stage.says(9, "Returns the SIGN; -9 if the LENGTH is 0");
        scene("allocate 0 2; run 0 255 1 2; rewind 0");
        Stage.done(255, "get 0", "w0: 1 2 2 -9 <255>.");
        scene("allocate 0 2; run 0 255 1 2; rewind 0; get 0");
        Stage.done(0, "get 0", "w0: 2 2 2 -9 <255>.");
        scene(ONE_LEFT);
        Stage.done(99, "get 0", "w0: 3 3 10 -9 abcdefghij");
        scene(NONE_LEFT);
        Stage.nine("get 0");
        scene("allocate 0 0");
        Stage.nine("get 0");
        scene("allocate 0 40; run 0 65 1 40");
        Stage.nine("get 0");
        scene(NONE_LEFT);
        Stage.ranges("get 0", "win");
    }

    private static void read() {
        Stage.says(10, "READS SIGNS one behind the other, as long as fewer than many are");
        scene(INSIDE);
        Stage.done("def", "read 0 3", "w0: 6 7 10 3 abcdefghij");
        Stage.done("defg", "read 0 4", "w0: 7 7 10 3 abcdefghij");
        Stage.done("defg", "read 0 5", "w0: 7 7 10 3 abcdefghij");
        Stage.done("defg", "read 0 40", "w0: 7 7 10 3 abcdefghij");
        Stage.done("d", "read 0 1", "w0: 4 7 10 3 abcdefghij");
        Stage.says(10, "Returns these SIGNS");
        Stage.done("", "read 0 0");
        scene(NONE_LEFT);
        Stage.done("", "read 0 40");
        Stage.done("", "read 0 0");
        scene("allocate 0 40; run 0 88 0 40; rewind 0");
        Stage.done("X".repeat(40), "read 0 40", "w0: 40 40 40 -9 " + "X".repeat(40));
        Stage.done("X".repeat(39), "read 0 39", "w0: 39 40 40 -9 " + "X".repeat(40));
        scene("allocate 0 3");
        Stage.done("\0\0\0", "read 0 3", "w0: 3 3 3 -9 ...");
        scene(INSIDE);
        Stage.ranges("read 0 3", "win", "0..40");
        scene(NONE_LEFT);
        Stage.ranges("read 0 3", "win", "0..40");
    }

    private static void pour() {
        Stage.says(11, "As long as fewer than most SIGNS went, and both LENGTHS are above 0");
        scene(INSIDE, "read 1 6");
        Stage.done(3, "pour 0 1 3", "w0: 6 7 10 3 abcdefghij", "w1: 9 12 12 -9 ......def...");
        Stage.done(4, "pour 0 1 4", "w0: 7 7 10 3 abcdefghij", "w1: 10 12 12 -9 ......defg..");
        Stage.done(4, "pour 0 1 5", "w0: 7 7 10 3 abcdefghij", "w1: 10 12 12 -9 ......defg..");
        Stage.done(4, "pour 0 1 40", "w0: 7 7 10 3 abcdefghij", "w1: 10 12 12 -9 ......defg..");
        Stage.done(4, "pour 1 0 40", "w0: 7 7 10 3 abc....hij", "w1: 10 12 12 -9 ............");
        scene(INSIDE, "read 1 10");
        Stage.done(2, "pour 0 1 40", "w0: 5 7 10 3 abcdefghij", "w1: 12 12 12 -9 ..........de");
        Stage.done(1, "pour 0 1 1", "w0: 4 7 10 3 abcdefghij", "w1: 11 12 12 -9 ..........d.");
        pourOverTheSameRow();
        Stage.says(11, "Returns how many went");
        scene(INSIDE, "allocate 1 0");
        Stage.done(0, "pour 0 1 40");
        Stage.done(0, "pour 1 0 40");
        Stage.done(0, "pour 0 2 0");
        scene("allocate 0 40; run 0 88 0 40; rewind 0; allocate 1 40");
        Stage.done(40, "pour 0 1 40", "w0: 40 40 40 -9 " + "X".repeat(40), "w1: 40 40 40 -9 " + "X".repeat(40));
        Stage.done(39, "pour 0 1 39", "w0: 39 40 40 -9 " + "X".repeat(40),
                "w1: 39 40 40 -9 " + "X".repeat(39) + ".");
        scene(INSIDE);
        Stage.ranges("pour 0 5 3", "any", "any", "0..40");
        pourRefused();
    }

    private static void pourOverTheSameRow() {
        scene(TEN, "duplicate 0 1; get 1");
        Stage.done(9, "pour 0 1 40", "w0: 9 10 10 -9 aaaaaaaaaa", "w1: 10 10 10 -9 aaaaaaaaaa");
        Stage.done(9, "pour 1 0 40", "w0: 9 10 10 -9 bcdefghijj", "w1: 10 10 10 -9 bcdefghijj");
        scene(TEN, "duplicate 0 1; read 1 3");
        Stage.done(7, "pour 0 1 40", "w0: 7 10 10 -9 abcabcabca", "w1: 10 10 10 -9 abcabcabca");
        Stage.done(4, "pour 0 1 4", "w0: 4 10 10 -9 abcabcahij", "w1: 7 10 10 -9 abcabcahij");
        scene(TEN, "duplicate 0 1");
        Stage.done(10, "pour 0 1 10", "w0: 10 10 10 -9 abcdefghij", "w1: 10 10 10 -9 abcdefghij");
    }

    private static void pourRefused() {
        Stage.says(11, "Throws `IllegalArgumentException` if from is into, or most is not 0 to 40");
        for (int w = 0; w < 6; w++) {
            Stage.argument("pour " + w + " " + w + " 3");
            Stage.argument("pour " + w + " " + w + " 0");
            Stage.argument("pour " + w + " " + w + " 41");
        }
        Stage.says(11, "Throws `IndexOutOfBoundsException` if from or into is not 0 to 5");
        for (String outside : new String[] {"-1", "6", "7", "MIN", "MAX"}) {
            Stage.bounds("pour " + outside + " 0 3");
            Stage.bounds("pour 0 " + outside + " 3");
            Stage.bounds("pour " + outside + " " + outside + " 3");
            Stage.bounds("pour " + outside + " 0 41");
            Stage.bounds("pour 0 " + outside + " -1");
        }
        Stage.done(0, "pour 0 5 0");
        Stage.done(0, "pour 5 0 0");
    }

    private static void mark() {
        Stage.says(12, "Its MARK becomes its POSITION");
        scene(TEN);
        Stage.done(0, "mark 0", "w0: 0 10 10 0 abcdefghij");
        scene(INSIDE, "get 0");
        Stage.done(4, "mark 0", "w0: 4 7 10 4 abcdefghij");
        Stage.says(12, "Returns its POSITION");
        scene(NONE_LEFT);
        Stage.done(3, "mark 0", "w0: 3 3 10 3 abcdefghij");
        scene("allocate 0 0; allocate 1 40; read 1 40");
        Stage.done(0, "mark 0", "w0: 0 0 0 0 ");
        Stage.done(40, "mark 1", "w1: 40 40 40 40 " + ".".repeat(40));
        Stage.ranges("mark 0", "win");
    }

    private static void reset() {
        Stage.says(13, "Its POSITION becomes its MARK; the MARK stays");
        scene(INSIDE, "read 0 3");
        Stage.done(3, "reset 0", "w0: 3 7 10 3 abcdefghij");
        scene(INSIDE, "read 0 3; reset 0; read 0 4");
        Stage.done(3, "reset 0", "w0: 3 7 10 3 abcdefghij");
        Stage.says(13, "Returns its POSITION then; -9 if it has no MARK");
        scene(INSIDE);
        Stage.done(3, "reset 0");
        scene("mark 0; read 0 5; allocate 1 40; read 1 40; mark 1");
        Stage.done(0, "reset 0", "w0: 0 12 12 0 ............");
        Stage.done(40, "reset 1");
        Stage.nine("reset 2");
        for (String clearing : new String[] {"rewind 0", "flip 0", "compact 0", "open 0", "slice 0 0", "allocate 0 7",
            "slice 1 0", "duplicate 1 0"}) {
            scene(INSIDE, clearing);
            Stage.nine("reset 0");
        }
        scene(INSIDE, "rewind 0; read 0 3");
        Stage.nine("reset 0");
        scene("allocate 0 0");
        Stage.nine("reset 0");
        scene("part 0 12 12 0; part 1 0 0 1");
        Stage.done(12, "reset 0");
        Stage.done(0, "reset 1");
        Stage.ranges("reset 5", "win");
    }

    private static void rewind() {
        Stage.says(14, "Its POSITION becomes 0; it has no MARK then");
        scene(INSIDE);
        Stage.done(7, "rewind 0", "w0: 0 7 10 -9 abcdefghij");
        scene("mark 0; get 1");
        Stage.done(12, "rewind 0", "w0: 0 12 12 -9 ............");
        Stage.done(12, "rewind 1", "w1: 0 12 12 -9 ............");
        Stage.says(14, "Returns its LENGTH then");
        scene(NONE_LEFT);
        Stage.done(3, "rewind 0", "w0: 0 3 10 -9 abcdefghij");
        scene(TEN, "flip 0; allocate 1 40; run 1 88 0 40; mark 1");
        Stage.done(0, "rewind 0");
        Stage.done(40, "rewind 1", "w1: 0 40 40 -9 " + "X".repeat(40));
        Stage.ranges("rewind 0", "win");
    }

    private static void flip() {
        Stage.says(15, "Its LIMIT becomes its POSITION, then its POSITION 0; it has no MARK then");
        scene(INSIDE);
        Stage.done(3, "flip 0", "w0: 0 3 10 -9 abcdefghij");
        Stage.says(15, "Returns its LENGTH then");
        scene(TEN, "mark 0");
        Stage.done(0, "flip 0", "w0: 0 0 10 -9 abcdefghij");
        scene(TEN, "mark 0; read 0 10");
        Stage.done(10, "flip 0", "w0: 0 10 10 -9 abcdefghij");
        scene(TEN, "read 0 4; flip 0");
        Stage.done(0, "flip 0", "w0: 0 0 10 -9 abcdefghij");
        scene("allocate 0 0; allocate 1 40; run 1 88 0 40");
        Stage.done(0, "flip 0");
        Stage.done(40, "flip 1", "w1: 0 40 40 -9 " + "X".repeat(40));
        Stage.ranges("flip 0", "win");
    }

    private static void compact() {
        Stage.says(16, "come to its places 0 to n - 1, in their order, each as it was ahead of the call");
        scene(INSIDE, "get 0");
        Stage.done(3, "compact 0", "w0: 3 10 10 -9 efgdefghij");
        scene(TEN, "get 0");
        Stage.done(9, "compact 0", "w0: 9 10 10 -9 bcdefghijj");
        scene(TEN, "read 0 9");
        Stage.done(1, "compact 0", "w0: 1 10 10 -9 jbcdefghij");
        // The rest comes to the front of the slice, behind its start; what lies ahead of it and behind it stays.
        scene(INSIDE, "slice 0 1; read 1 2");
        Stage.done(2, "compact 1", "w0: 3 7 10 3 abcfgfghij", "w1: 2 4 4 -9 fgfg");
        scene(TEN, "read 0 2; part 0 3 5 1; duplicate 0 2");
        Stage.done(2, "compact 1", "w0: 2 10 10 -9 fgcdefghij", "w1: 2 10 10 -9 fgcdefghij",
                "w2: 2 10 10 -9 fgcdefghij");
        Stage.says(16, "Its POSITION becomes n, its LIMIT its CAPACITY; it has no MARK then");
        scene(TEN, "mark 0; read 0 4; flip 0; mark 0");
        Stage.done(4, "compact 0", "w0: 4 10 10 -9 abcdefghij");
        scene(TEN, "mark 0");
        Stage.done(10, "compact 0", "w0: 10 10 10 -9 abcdefghij");
        Stage.says(16, "Returns its POSITION then");
        scene(NONE_LEFT, "mark 0");
        Stage.done(0, "compact 0", "w0: 0 10 10 -9 abcdefghij");
        scene("allocate 0 0; mark 0; allocate 1 40; put 1 88; put 1 89");
        Stage.done(0, "compact 0", "w0: 0 0 0 -9 ");
        Stage.done(38, "compact 1", "w1: 38 40 40 -9 " + ".".repeat(40));
        scene("allocate 0 40; run 0 65 1 40; rewind 0; get 0");
        Stage.done(39, "compact 0", "w0: 39 40 40 -9 BCDEFGHIJKLMNOPQRSTUVWXYZ[\\]^_`abcdefghh");
        Stage.ranges("compact 0", "win");
    }

    private static void open() {
        Stage.says(17, "Its POSITION becomes 0, its LIMIT its CAPACITY; it has no MARK then");
        scene(INSIDE);
        Stage.done(10, "open 0", "w0: 0 10 10 -9 abcdefghij");
        scene(INSIDE, "slice 0 1; mark 1; read 1 2; flip 1; mark 1");
        Stage.done(4, "open 1", "w1: 0 4 4 -9 defg");
        Stage.says(17, "No SIGN changes");
        scene(TEN, "flip 0; duplicate 0 1");
        Stage.done(10, "open 0", "w0: 0 10 10 -9 abcdefghij");
        scene(TEN, "flip 0; open 0");
        Stage.asked("abcdefghij", "text 0 0");
        Stage.says(17, "Returns its LENGTH then");
        scene("allocate 0 0; mark 0; allocate 1 40; read 1 40");
        Stage.done(0, "open 0", "w0: 0 0 0 -9 ");
        Stage.done(40, "open 1", "w1: 0 40 40 -9 " + ".".repeat(40));
        Stage.ranges("open 0", "win");
    }

    // The asks of a window.

    private static void left() {
        Stage.says(27, "Returns its LENGTH");
        for (int how = 0; how <= 1; how++) {
            scene(INSIDE, "slice 0 1; allocate 2 0; allocate 3 40; allocate 4 1");
            Stage.asked(4, "left 0 " + how);
            Stage.asked(4, "left 1 " + how);
            Stage.asked(0, "left 2 " + how);
            Stage.asked(40, "left 3 " + how);
            Stage.asked(1, "left 4 " + how);
            Stage.asked(12, "left 5 " + how);
            scene(NONE_LEFT);
            Stage.asked(0, "left 0 " + how);
        }
        Stage.ranges("left 0 0", "win", "0..1");
    }

    private static void bounds() {
        String all = INSIDE + "; get 0; slice 0 1; get 1; allocate 2 0; allocate 3 40; read 3 40; mark 3; mark 4";
        Stage.says(28, "Returns its POSITION");
        askedOfEach(all, "position", 4, 1, 0, 40, 0, 0);
        Stage.ranges("position 0", "win");
        Stage.says(29, "Returns its LIMIT");
        askedOfEach(all, "limit", 7, 3, 0, 40, 12, 12);
        Stage.ranges("limit 0", "win");
        Stage.says(30, "Returns its CAPACITY");
        askedOfEach(all, "capacity", 10, 3, 0, 40, 12, 12);
        Stage.ranges("capacity 0", "win");
        Stage.says(31, "Returns its MARK; -9 if it has none");
        askedOfEach(all, "marked", 3, -9, -9, 40, 0, -9);
        Stage.ranges("marked 0", "win");
    }

    private static void askedOfEach(String calls, String ask, int... answers) {
        scene(calls);
        for (int w = 0; w < answers.length; w++) {
            Stage.asked(answers[w], ask + " " + w);
        }
    }

    private static void sign() {
        Stage.says(32, "Returns that SIGN; -9 if place is below 0, or not below its LENGTH");
        scene(INSIDE, "slice 0 1; get 1; allocate 2 0; allocate 3 40; run 3 216 1 40; rewind 3");
        Stage.asked(100, "sign 0 0");
        Stage.asked(103, "sign 0 3");
        Stage.asked(101, "sign 1 0");
        Stage.asked(103, "sign 1 2");
        Stage.asked(255, "sign 3 39");
        for (String outside : new String[] {"0 4", "0 6", "0 7", "0 -1", "0 -3", "1 3", "1 -1", "2 0", "2 -1", "3 40",
            "0 MIN", "0 MAX", "1 MAX", "1 MIN", "0 2147483645", "1 -2147483647", "5 12"}) {
            Stage.asked(-9, "sign " + outside);
        }
        scene(NONE_LEFT);
        Stage.asked(-9, "sign 0 0");
        Stage.asked(-9, "sign 0 -1");
        Stage.ranges("sign 0 0", "win", "any");
        Stage.ranges("sign 0 -1", "win", "any");
    }

    private static void look() {
        Stage.says(33, "Returns the SIGN at that place; -9 if place is below 0, or not below its LIMIT");
        scene(INSIDE, "slice 0 1; get 1; allocate 2 0; allocate 3 40; run 3 216 1 40");
        Stage.asked(97, "look 0 0");
        Stage.asked(100, "look 0 3");
        Stage.asked(103, "look 0 6");
        Stage.asked(100, "look 1 0");
        Stage.asked(103, "look 1 3");
        Stage.asked(216, "look 3 0");
        Stage.asked(255, "look 3 39");
        for (String outside : new String[] {"0 7", "0 9", "0 10", "0 -1", "1 4", "1 6", "1 -1", "1 -3", "2 0", "2 -1",
            "3 40", "0 MIN", "0 MAX", "1 MAX", "1 MIN", "1 2147483644", "5 12"}) {
            Stage.asked(-9, "look " + outside);
        }
        scene(TEN, "flip 0");
        Stage.asked(-9, "look 0 0");
        Stage.ranges("look 0 0", "win", "any");
        Stage.ranges("look 0 -1", "win", "any");
    }

    private static void text() {
        Stage.says(34, "Returns its TEXT");
        for (int how = 0; how <= 3; how++) {
            scene(INSIDE, "slice 0 1; get 1; allocate 2 0; allocate 3 40; run 3 216 1 40; rewind 3; allocate 4 1");
            Stage.asked("defg", "text 0 " + how);
            Stage.asked("efg", "text 1 " + how);
            Stage.asked("", "text 2 " + how);
            StringBuilder forty = new StringBuilder();
            for (int k = 216; k <= 255; k++) {
                forty.append((char) k);
            }
            Stage.asked(forty.toString(), "text 3 " + how);
            Stage.asked("\0", "text 4 " + how);
            Stage.asked("\0".repeat(12), "text 5 " + how);
            scene(NONE_LEFT);
            Stage.asked("", "text 0 " + how);
            scene(TEN, "flip 0");
            Stage.asked("", "text 0 " + how);
            Stage.ranges("text 0 " + how, "win", "0..3");
        }
    }

    private static void inner() {
        for (int how = 0; how <= 2; how++) {
            Stage.says(35, "Returns the SIGNS a + c to a + d - 1 of its TEXT");
            scene(INSIDE, "allocate 1 40; run 1 65 0 40; rewind 1; allocate 2 0; slice 0 3; get 3");
            Stage.asked("ef", "inner 0 0 4 1 3 " + how);
            Stage.asked("f", "inner 0 1 4 1 2 " + how);
            Stage.asked("fg", "inner 3 0 3 1 3 " + how);
            Stage.asked("g", "inner 3 1 3 1 2 " + how);
            Stage.asked("defg", "inner 0 0 4 0 4 " + how);
            Stage.asked("", "inner 0 0 0 0 0 " + how);
            Stage.asked("", "inner 0 4 4 0 0 " + how);
            Stage.asked("", "inner 0 0 4 4 4 " + how);
            Stage.asked("", "inner 0 1 3 2 2 " + how);
            Stage.asked("", "inner 2 0 0 0 0 " + how);
            Stage.asked("A".repeat(40), "inner 1 0 40 0 40 " + how);
            Stage.asked("A", "inner 1 39 40 0 1 " + how);
            innerRefused(how);
        }
        scene(INSIDE);
        Stage.ranges("inner 0 0 4 1 3 0", "win", "any", "any", "any", "any", "0..2");
    }

    private static void innerRefused(int how) {
        Stage.says(35, "Throws `IllegalArgumentException` if it is not so that");
        for (String outside : new String[] {"0 5 0 0", "5 5 0 0", "4 5 0 1", "-1 4 0 1", "-1 -1 0 0", "2 1 0 0",
            "0 4 0 5", "0 4 5 5", "1 3 0 3", "1 3 2 3", "1 3 3 3", "0 4 -1 0", "0 4 -1 -1", "0 4 2 1", "0 4 0 -1",
            "0 7 0 1", "0 10 0 1", "MIN 4 0 0", "MAX MAX 0 0", "MIN MAX 0 0", "0 MAX 0 0", "0 MIN 0 0", "MIN MIN 0 0",
            "0 4 MIN MAX", "0 4 MAX MAX", "0 4 0 MAX", "0 4 0 MIN", "0 4 MIN 0", "MAX 0 0 0", "MAX MIN 0 1",
            "4 0 0 0", "4 0 0 -4"}) {
            Stage.argument("inner 0 " + outside + " " + how);
        }
        Stage.argument("inner 2 0 1 0 0 " + how);
        Stage.argument("inner 2 0 0 0 1 " + how);
        Stage.says(35, "Throws `IndexOutOfBoundsException` if win is not 0 to 5");
        for (String outside : new String[] {"-1", "6", "7", "MIN", "MAX"}) {
            Stage.bounds("inner " + outside + " 0 4 1 3 " + how);
            Stage.bounds("inner " + outside + " 0 5 1 3 " + how);
            Stage.bounds("inner " + outside + " 0 4 1 3 3");
        }
    }
}
