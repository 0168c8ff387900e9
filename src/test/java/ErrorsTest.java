/** Setup texts with and without errors: promises 2, 3 and 4. */
public final class ErrorsTest {
    private static final int FINE = 0;
    private static final int SYNTAX = OneBeat.SYNTAX_ERROR;
    private static final int RANGE = OneBeat.OUT_OF_RANGE;
    private static final int TWICE = OneBeat.REPEATED;
    private static final int DEEP = OneBeat.TOO_DEEP;

    private ErrorsTest() {
    }

    /** The error is due where the first '^' stands in the second text; without one the text is fine. */
    private static void read(int due, String text, String mark) {
        OneBeat x = new OneBeat();
        long before = x.checksum();
        int got = Check.load(x, text);
        Check.same("error of '" + text + "'", Math.min(got, 0), due);
        Check.same("offset of '" + text + "'", x.errorOffset(), mark.indexOf('^'));
        if (due != FINE) {
            Check.same("data after '" + text + "'", x.checksum(), before);
            Check.same("changes after '" + text + "'", x.undo(), -1);
        } else {
            Check.same("changes after '" + text + "'", x.undo(), 0);
        }
        Check.same("buffer after '" + text + "'", x.append(0, 0, 0, 0, 0), 20);
    }

    private static void head() {
        read(FINE, "players 1;", "");
        read(FINE, "  players  8  ;  ", "");
        read(FINE, "players3;", "");
        read(FINE, "players0000000000000000000000000000000003;", "");
        read(SYNTAX, "", "^");
        read(SYNTAX, "   ", "   ^");
        read(SYNTAX, "players", "       ^");
        read(SYNTAX, "players  ", "         ^");
        read(SYNTAX, "players 3", "         ^");
        read(SYNTAX, "players;", "       ^");
        read(SYNTAX, "player 3;", "^");
        read(SYNTAX, "playersx 3;", "^");
        read(SYNTAX, "Players 3;", "^");
        read(SYNTAX, "3;", "^");
        read(SYNTAX, " clock 0 1 1;", " ^");
        read(RANGE, "players 0;", "        ^");
        read(RANGE, "players 9;", "        ^");
        read(RANGE, "players 009 x;", "        ^");
        read(RANGE, "players 4294967297;", "        ^");
        read(RANGE, "players 18446744073709551617;", "        ^");
        read(SYNTAX, "players -1;", "        ^");
        read(SYNTAX, "players 3,", "         ^");
        read(SYNTAX, "players 3;;", "          ^");
        read(SYNTAX, "players 3;players 3;", "          ^");
        read(SYNTAX, "players\t3;", "       ^");
        read(SYNTAX, "players 3;\n", "          ^");
        read(SYNTAX, "players 3;\u00e1", "          ^");
        read(SYNTAX, "players 3;\u0000", "          ^");
        read(SYNTAX, "players 3;A", "          ^");
        read(SYNTAX, "players 3;`", "          ^");
        read(SYNTAX, "players 3;{", "          ^");
        read(SYNTAX, "players 3:", "         ^");
        read(SYNTAX, "players 3/", "         ^");
        read(SYNTAX, "players 3;foo;", "          ^");
        read(SYNTAX, "xlayers 3;", "^");
        read(SYNTAX, "players 3;heed 1;", "          ^");
        read(SYNTAX, "players 3;needa 1;", "          ^");
        read(SYNTAX, "players 3;needz 1;", "          ^");
        read(SYNTAX, "players 3;zneed 1;", "          ^");
        read(SYNTAX, "players 3;aneed 1;", "          ^");
        read(SYNTAX, "players 3;4;", "          ^");
    }

    private static void clocks() {
        read(FINE, "players 2;clock 0 999 50;clock 1 -999 -50;", "");
        read(FINE, "players 2;clock0-999-50;clock1 0-0;", "");
        read(FINE, "players 2;clock 1 - 5 - 6;", "");
        read(RANGE, "players 2;clock 2 0 0;", "                ^");
        read(RANGE, "players 2;clock 0 1000 0;", "                  ^");
        read(RANGE, "players 2;clock 0 - 1000 0;", "                  ^");
        read(RANGE, "players 2;clock 0 0 51;", "                    ^");
        read(RANGE, "players 2;clock 0 0 -51;", "                    ^");
        read(RANGE, "players 2;clock 0 0-99999999999;", "                   ^");
        read(TWICE, "players 2;clock 1 0 0;clock 1 0 0;", "                            ^");
        read(TWICE, "players 2;clock 1 0 0;clock 1 x", "                            ^");
        read(FINE, "players 2;clock 1 0 0;clock 0 0 0;", "");
        read(SYNTAX, "players 2;clock -1 0 0;", "                ^");
        read(SYNTAX, "players 2;clock 0 --1 0;", "                   ^");
        read(SYNTAX, "players 2;clock 0 +1 0;", "                  ^");
        read(SYNTAX, "players 2;clock 0 - ;", "                    ^");
        read(SYNTAX, "players 2;clock 0 -", "                   ^");
        read(SYNTAX, "players 2;clock 0 1;", "                   ^");
        read(SYNTAX, "players 2;clock 0 1 2 3;", "                      ^");
        read(SYNTAX, "players 2;clock;", "               ^");
        read(SYNTAX, "players 2;clocks 0 1 2;", "          ^");
    }

    private static void links() {
        read(FINE, "players 3;link 0 1 1 9;link 2 0 9 1;link 1 2 5 5;", "");
        read(FINE, "players 3;link0 1 1 9;", "");
        read(RANGE, "players 3;link 3 0 1 1;", "               ^");
        read(RANGE, "players 3;link 0 3 1 1;", "                 ^");
        read(RANGE, "players 3;link 0 1 0 1;", "                   ^");
        read(RANGE, "players 3;link 0 1 10 1;", "                   ^");
        read(RANGE, "players 3;link 0 1 1 0;", "                     ^");
        read(RANGE, "players 3;link 0 1 1 10;", "                     ^");
        read(TWICE, "players 3;link 1 1 2 2;", "                 ^");
        read(TWICE, "players 3;link 1 01 0 2;", "                 ^");
        read(TWICE, "players 3;link 0 1 2 2;link 0 1 2 2;", "                              ^");
        read(TWICE, "players 3;link 0 1 2 2;link 1 0 2 2;", "                              ^");
        read(RANGE, "players 3;link 0 1 2 2;link 1 3 2 2;", "                              ^");
        read(RANGE, "players 1;link 0 1 2 2;", "                 ^");
        read(TWICE, "players 1;link 0 0 2 2;", "                 ^");
        read(SYNTAX, "players 3;link 0 1 1;", "                    ^");
        read(SYNTAX, "players 3;link 0 1 1 -1;", "                     ^");
        read(SYNTAX, "players 3;link 0 1 1 1", "                      ^");
        read(SYNTAX, "players 3;link 0 1 1 1 1;", "                       ^");
    }

    private static void onceEach() {
        read(FINE, "players 3;need 1;patience 1;margin 1;", "");
        read(FINE, "players 3;margin song;patience 200;need 3;", "");
        read(RANGE, "players 3;need 0;", "               ^");
        read(RANGE, "players 3;need 4;", "               ^");
        read(RANGE, "players 3;patience 0;", "                   ^");
        read(RANGE, "players 3;patience 201;", "                   ^");
        read(SYNTAX, "players 3;need 1;need 1;", "                 ^");
        read(SYNTAX, "players 3;need 3; need 9;", "                  ^");
        read(SYNTAX, "players 3;patience 50;patience 50;", "                      ^");
        read(SYNTAX, "players 3;margin 1;margin 1;", "                   ^");
        read(SYNTAX, "players 3;margin 1;margin ((((((", "                   ^");
        read(SYNTAX, "players 3;need;", "              ^");
        read(SYNTAX, "players 3;patience;", "                  ^");
        read(SYNTAX, "players 3;margin;", "                ^");
        read(SYNTAX, "players 3;need x;", "               ^");
        read(SYNTAX, "players 3;patience -1;", "                   ^");
    }

    private static void sums() {
        read(FINE, "players 3;margin 0;", "");
        read(FINE, "players 3;margin 9999;", "");
        read(FINE, "players 3;margin players*delay/up-song+(3);", "");
        read(FINE, "players 3;margin ( ( ( ( 1 ) ) ) );", "");
        read(FINE, "players 3;margin((((1))))*((((2))));", "");
        read(FINE, "players 3;margin 5up;".replace("5up", "5/up"), "");
        read(RANGE, "players 3;margin 10000;", "                 ^");
        read(RANGE, "players 3;margin 1+10000", "                   ^");
        read(RANGE, "players 3;margin (00010000", "                  ^");
        read(SYNTAX, "players 3;margin -1;", "                 ^");
        read(SYNTAX, "players 3;margin 1+;", "                   ^");
        read(SYNTAX, "players 3;margin 1*/2;", "                   ^");
        read(SYNTAX, "players 3;margin 1 2;", "                   ^");
        read(SYNTAX, "players 3;margin 5up;", "                  ^");
        read(SYNTAX, "players 3;margin upsong;", "                 ^");
        read(SYNTAX, "players 3;margin u;", "                 ^");
        read(SYNTAX, "players 3;margin need;", "                 ^");
        read(SYNTAX, "players 3;margin ();", "                  ^");
        read(SYNTAX, "players 3;margin (1;", "                   ^");
        read(SYNTAX, "players 3;margin (1", "                   ^");
        read(SYNTAX, "players 3;margin 1);", "                  ^");
        read(SYNTAX, "players 3;margin 1(;", "                  ^");
        read(SYNTAX, "players 3;margin ((((1)))(;", "                         ^");
        read(SYNTAX, "players 3;margin 1%2;", "                  ^");
        read(DEEP, "players 3;margin (((((", "                     ^");
        read(DEEP, "players 3;margin ((((1+(2", "                       ^");
        read(DEEP, "players 3;margin (((1)+((2))*(((", "                               ^");
        read(SYNTAX, "players 3;margin ((((1)+(2", "                          ^");
    }

    private static void longest() {
        StringBuilder sum = new StringBuilder("players 1;margin 1");
        while (sum.length() < 598) {
            sum.append("+1");
        }
        OneBeat x = new OneBeat();
        String text = sum.append("; ").toString();
        Check.same("length of the longest text", text.length(), 600);
        Check.same("load of the longest text", Check.load(x, text), 1);
        Check.same("margin of the longest text", x.state(12), 291);
        StringBuilder zeros = new StringBuilder("players ");
        while (zeros.length() < 598) {
            zeros.append("0");
        }
        Check.same("load of many zeros", Check.load(x, zeros.append("7;").toString()), 7);
        StringBuilder empty = new StringBuilder();
        while (empty.length() < 600) {
            empty.append(" ");
        }
        Check.same("load of spaces alone", Check.load(x, empty.toString()), SYNTAX);
        Check.same("offset in spaces alone", x.errorOffset(), 600);
        Check.same("players stay", x.state(0), 7);
    }

    public static void main(String[] args) {
        head();
        clocks();
        links();
        onceEach();
        sums();
        longest();
        Check.end("ErrorsTest");
    }
}
