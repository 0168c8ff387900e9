import java.nio.charset.StandardCharsets;

/** Counts and prints the answers that are not due. */
final class Check {
    private static int wrong = 0;
    private static int asked = 0;

    private Check() {
    }

    static void same(String what, long got, long due) {
        asked++;
        if (got != due) {
            wrong++;
            System.out.println(what + " answered " + got + ", due is " + due);
        }
    }

    static void same(String what, boolean got, boolean due) {
        same(what, got ? 1 : 0, due ? 1 : 0);
    }

    static void sameDouble(String what, double got, double due) {
        asked++;
        if (got != due) {
            wrong++;
            System.out.println(what + " answered " + got + ", due is " + due);
        }
    }

    static void holds(String what, boolean isTrue) {
        same(what, isTrue, true);
    }

    /** The exception must be of this very class, not of one below it. */
    static void throwsJust(String what, Class<?> due, Runnable call) {
        asked++;
        Class<?> got = null;
        try {
            call.run();
        } catch (RuntimeException e) {
            got = e.getClass();
        }
        if (got != due) {
            wrong++;
            System.out.println(what + " threw " + got + ", due is " + due);
        }
    }

    /** The same, and the checksum of the object must be as before. */
    static void refuses(String what, OneBeat x, Class<?> due, Runnable call) {
        long before = x.checksum();
        throwsJust(what, due, call);
        same(what + ": checksum after it", x.checksum(), before);
    }

    static int put(OneBeat x, byte[] text) {
        int length = 0;
        for (int i = 0; i < text.length; i += 20) {
            int[] words = new int[5];
            for (int k = 0; k < 20; k++) {
                int b = i + k < text.length ? text[i + k] & 255 : ' ';
                words[k / 4] = words[k / 4] << 8 | b;
            }
            length = x.append(words[0], words[1], words[2], words[3], words[4]);
        }
        return length;
    }

    static int load(OneBeat x, String text) {
        byte[] bytes = text.getBytes(StandardCharsets.ISO_8859_1);
        put(x, bytes);
        return x.load(bytes.length);
    }

    /** A new object with this setup. */
    static OneBeat with(String text) {
        OneBeat x = new OneBeat();
        int players = load(x, text);
        if (players < 1) {
            wrong++;
            System.out.println("setup refused (" + players + " at " + x.errorOffset() + "): " + text);
        }
        return x;
    }

    static void end(String name) {
        System.out.println(name + ": " + asked + " answers, " + wrong + " not as due");
        if (wrong != 0) {
            System.exit(1);
        }
    }
}
