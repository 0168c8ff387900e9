import java.util.NoSuchElementException;

/** Counts and prints the answers that are not due; a class of tests extends it to call it by short names. */
abstract class Check {
    static final Class<?> INDEX = IndexOutOfBoundsException.class;
    static final Class<?> ARGUMENT = IllegalArgumentException.class;
    static final Class<?> STATE = IllegalStateException.class;
    static final Class<?> ELEMENT = NoSuchElementException.class;

    static final int FINE = 0;
    static final int SYNTAX = OneBeat.SYNTAX_ERROR;
    static final int RANGE = OneBeat.OUT_OF_RANGE;
    static final int TWICE = OneBeat.REPEATED;
    static final int DEEP = OneBeat.TOO_DEEP;

    private static int wrong = 0;
    private static int asked = 0;
    private static String sentence = "";

    /** The sentence of the document that the next answers are about; it is printed ahead of a wrong one. */
    static void about(String newSentence) {
        sentence = newSentence;
    }

    private static void report(String row) {
        wrong++;
        if (!sentence.isEmpty()) {
            System.out.println("\"" + sentence + "\"");
            sentence = "";
        }
        System.out.println("  " + row);
    }

    static void same(String what, long got, long due) {
        asked++;
        if (got != due) {
            report(what + " answered " + got + ", due is " + due);
        }
    }

    static void same(String what, boolean got, boolean due) {
        same(what, got ? 1 : 0, due ? 1 : 0);
    }

    static void sameDouble(String what, double got, double due) {
        asked++;
        if (got != due) {
            report(what + " answered " + got + ", due is " + due);
        }
    }

    static void holds(String what, boolean isTrue) {
        same(what, isTrue, true);
    }

    /** The exception must be of this very class, not of one below it. */
    static void throwsJust(String what, Class<?> due, Runnable call) {
        asked++;
        Class<?> got = null;
        try {
            call.run();
        } catch (RuntimeException e) {
            got = e.getClass();
        }
        if (got != due) {
            report(what + " threw " + got + ", due is " + due);
        }
    }

    /** The same, and the checksum of the object must be as before. */
    static void refuses(String what, OneBeat x, Class<?> due, Runnable call) {
        long before = x.checksum();
        throwsJust(what, due, call);
        same(what + ": checksum after it", x.checksum(), before);
    }

    /** Appends the signs of the text, which are 0 to 255, and spaces up to a multiple of 20. */
    static int put(OneBeat x, String text) {
        int length = 0;
        for (int i = 0; i < text.length(); i += 20) {
            int[] words = new int[5];
            for (int k = 0; k < 20; k++) {
                int b = i + k < text.length() ? text.charAt(i + k) : ' ';
                words[k / 4] = words[k / 4] << 8 | b;
            }
            length = x.append(words[0], words[1], words[2], words[3], words[4]);
        }
        return length;
    }

    static int load(OneBeat x, String text) {
        put(x, text);
        return x.load(text.length());
    }

    /** A new object with this setup. */
    static OneBeat with(String text) {
        OneBeat x = new OneBeat();
        int players = load(x, text);
        if (players < 1) {
            report("setup refused (" + players + " at " + x.errorOffset() + "): " + text);
        }
        return x;
    }

    /** The error is due where a '^' is put into the text; without one the text is fine. */
    static void reads(int due, String marked) {
        int offset = marked.indexOf('^');
        readsAt(due, offset, offset < 0 ? marked : marked.substring(0, offset) + marked.substring(offset + 1));
    }

    /** The error is due at the offset, which is -1 of a text that is fine. */
    static void readsAt(int due, int offset, String text) {
        OneBeat x = new OneBeat();
        long before = x.checksum();
        int got = load(x, text);
        same("error of '" + text + "'", Math.min(got, 0), due);
        same("offset of '" + text + "'", x.errorOffset(), offset);
        if (due != FINE) {
            same("data after '" + text + "'", x.checksum(), before);
            same("changes after '" + text + "'", x.undo(), -1);
        } else {
            same("changes after '" + text + "'", x.undo(), 0);
        }
        same("buffer after '" + text + "'", x.append(0, 0, 0, 0, 0), 20);
    }

    static void states(String name, OneBeat x, int... due) {
        for (int what = 0; what < due.length; what++) {
            same(name + ": state(" + what + ")", x.state(what), due[what]);
        }
    }

    static void players(String name, OneBeat x, int player, int... due) {
        for (int what = 0; what < due.length; what++) {
            same(name + ": player(" + player + ", " + what + ")", x.player(player, what), due[what]);
        }
    }

    static void messages(String name, OneBeat x, int[]... due) {
        same(name + ": on their way", x.state(3), due.length);
        for (int k = 0; k < Math.min(due.length, x.state(3)); k++) {
            for (int what = 0; what < due[k].length; what++) {
                same(name + ": message(" + k + ", " + what + ")", x.message(k, what), due[k][what]);
            }
        }
    }

    /** What message(k, 0) to message(k, 5) are to tell. */
    static int[] row(int kind, int from, int to, int arrival, int number, int proposal) {
        return new int[] {kind, from, to, arrival, number, proposal};
    }

    static void proposals(String name, OneBeat x, int... due) {
        for (int what = 0; what < due.length; what++) {
            same(name + ": proposal(" + what + ")", x.proposal(what), due[what]);
        }
    }

    static void foretells(String name, OneBeat x, int... due) {
        for (int what = 0; what < due.length; what++) {
            same(name + ": foretold(" + what + ")", x.foretold(what), due[what]);
        }
    }

    static void passes(OneBeat x, int ticks) {
        for (int i = 0; i < ticks; i += 50) {
            x.pass(Math.min(50, ticks - i));
        }
    }

    static void end(String name) {
        System.out.println(name + ": " + asked + " answers, " + wrong + " not as due");
        if (wrong != 0) {
            System.exit(1);
        }
    }
}
