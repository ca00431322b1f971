import java.lang.reflect.Field;

/**
 * What isSound() tells of an object that is not sound. No call of the face leads to one, so each of these is broken by
 * reaching into the class's own fields, one at a time, and mended again.
 */
public final class SoundnessTests {
    private static int checks = 0;
    private static int wrong = 0;
    private static Sashwords x;

    public static void main(String[] args) throws ReflectiveOperationException {
        try {
            for (int w = 0; w < 6; w++) {
                boundsOfWindow(w);
            }
            signsOfPipe();
        } catch (NoSuchFieldException e) {
            // How the class holds its state is free, so this is no fault of the class, but this test must follow it.
            System.out.println("SoundnessTests: to be written anew, as the class has no field " + e.getMessage());
        }
        System.out.println("SoundnessTests: " + checks + " checks, " + wrong + " wrong");
        if (wrong != 0) {
            System.exit(1);
        }
    }

    private static void due(boolean want, String what) {
        checks++;
        if (x.isSound() != want) {
            wrong++;
            System.out.println("promise 49: isSound() told " + !want + " of " + what);
        }
    }

    private static Field field(Object owner, String name) throws ReflectiveOperationException {
        Field found = owner.getClass().getDeclaredField(name);
        found.setAccessible(true);
        return found;
    }

    private static Object part(Object owner, String name) throws ReflectiveOperationException {
        return field(owner, name).get(owner);
    }

    private static void broken(Object owner, String name, int value, String what) throws ReflectiveOperationException {
        Field found = field(owner, name);
        int before = found.getInt(owner);
        found.setInt(owner, value);
        long digest = x.digest();
        due(false, what);
        found.setInt(owner, before);
        due(true, what + ", mended");
        checks++;
        if (digest == x.digest()) {
            wrong++;
            System.out.println("promise 50: digest() is the same of " + what);
        }
    }

    /** Position 4, limit 7, capacity 9, mark 2. */
    private static void boundsOfWindow(int w) throws ReflectiveOperationException {
        x = new Sashwords();
        x.allocate(w, 9);
        x.read(w, 7);
        x.flip(w);
        x.read(w, 2);
        x.mark(w);
        x.read(w, 2);
        due(true, "window " + w);
        Object window = ((Object[]) part(x, "windows"))[w];
        broken(window, "mark", 5, "a mark behind the position");
        broken(window, "mark", -1, "a mark below 0");
        broken(window, "position", 8, "a position behind the limit");
        broken(window, "position", 1, "a position ahead of the mark");
        broken(window, "limit", 10, "a limit behind the capacity");
        broken(window, "limit", 3, "a limit ahead of the position");
        broken(window, "capacity", 6, "a capacity below the limit");
        x.rewind(w);
        broken(window, "position", -1, "a position below 0");
        broken(window, "position", 8, "a position behind the limit, without a mark");
    }

    /** Sent is "cbaac", "cb" of it came, "aac" is held. */
    private static void signsOfPipe() throws ReflectiveOperationException {
        x = new Sashwords();
        x.feed(5, 4);
        x.drain(2);
        x.feed(2, 1);
        due(true, "the pipe");
        Object pipe = part(x, "line");
        for (String row : new String[] {"sent", "came", "holds"}) {
            Object script = part(pipe, row);
            char[] signs = (char[]) part(script, "signs");
            int length = field(script, "length").getInt(script);
            for (int k = 0; k < length; k++) {
                signs[k]++;
                due(false, "another sign " + k + " of " + row);
                signs[k]--;
                due(true, "the sign " + k + " of " + row + ", mended");
            }
            field(script, "length").setInt(script, length - 1);
            due(false, "a sign less of " + row);
            field(script, "length").setInt(script, length + 1);
            due(false, "a sign more of " + row);
            field(script, "length").setInt(script, length);
            due(true, row + ", mended");
        }
    }
}
