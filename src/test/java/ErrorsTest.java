/** Setup texts with and without errors: promises 2, 3 and 4. */
public final class ErrorsTest extends Check {
    private ErrorsTest() {
    }

    private static void head() {
        reads(FINE, "players 1;");
        reads(FINE, "  players  8  ;  ");
        reads(FINE, "players3;");
        reads(FINE, "players0000000000000000000000000000000003;");
        reads(SYNTAX, "^");
        reads(SYNTAX, "   ^");
        reads(SYNTAX, "players^");
        reads(SYNTAX, "players  ^");
        reads(SYNTAX, "players 3^");
        reads(SYNTAX, "players^;");
        reads(SYNTAX, "^player 3;");
        reads(SYNTAX, "^playersx 3;");
        reads(SYNTAX, "^Players 3;");
        reads(SYNTAX, "^3;");
        reads(SYNTAX, " ^clock 0 1 1;");
        reads(RANGE, "players ^0;");
        reads(RANGE, "players ^9;");
        reads(RANGE, "players ^009 x;");
        reads(RANGE, "players ^4294967297;");
        reads(RANGE, "players ^18446744073709551617;");
        reads(SYNTAX, "players ^-1;");
        reads(SYNTAX, "players 3^,");
        reads(SYNTAX, "players 3;^;");
        reads(SYNTAX, "players 3;^players 3;");
        reads(SYNTAX, "players^\t3;");
        reads(SYNTAX, "players 3;^\n");
        reads(SYNTAX, "players 3;^\u00e1");
        reads(SYNTAX, "players 3;^\u0000");
        reads(SYNTAX, "players 3;^A");
        reads(SYNTAX, "players 3;^`");
        reads(SYNTAX, "players 3;^{");
        reads(SYNTAX, "players 3^:");
        reads(SYNTAX, "players 3^/");
        reads(SYNTAX, "players 3;^foo;");
        reads(SYNTAX, "^xlayers 3;");
        reads(SYNTAX, "players 3;^heed 1;");
        reads(SYNTAX, "players 3;^needa 1;");
        reads(SYNTAX, "players 3;^needz 1;");
        reads(SYNTAX, "players 3;^zneed 1;");
        reads(SYNTAX, "players 3;^aneed 1;");
        reads(SYNTAX, "players 3;^4;");
    }

    private static void clocks() {
        reads(FINE, "players 2;clock 0 999 50;clock 1 -999 -50;");
        reads(FINE, "players 2;clock0-999-50;clock1 0-0;");
        reads(FINE, "players 2;clock 1 - 5 - 6;");
        reads(RANGE, "players 2;clock ^2 0 0;");
        reads(RANGE, "players 2;clock 0 ^1000 0;");
        reads(RANGE, "players 2;clock 0 ^- 1000 0;");
        reads(RANGE, "players 2;clock 0 0 ^51;");
        reads(RANGE, "players 2;clock 0 0 ^-51;");
        reads(RANGE, "players 2;clock 0 0^-99999999999;");
        reads(TWICE, "players 2;clock 1 0 0;clock ^1 0 0;");
        reads(TWICE, "players 2;clock 1 0 0;clock ^1 x");
        reads(FINE, "players 2;clock 1 0 0;clock 0 0 0;");
        reads(SYNTAX, "players 2;clock ^-1 0 0;");
        reads(SYNTAX, "players 2;clock 0 -^-1 0;");
        reads(SYNTAX, "players 2;clock 0 ^+1 0;");
        reads(SYNTAX, "players 2;clock 0 - ^;");
        reads(SYNTAX, "players 2;clock 0 -^");
        reads(SYNTAX, "players 2;clock 0 1^;");
        reads(SYNTAX, "players 2;clock 0 1 2 ^3;");
        reads(SYNTAX, "players 2;clock^;");
        reads(SYNTAX, "players 2;^clocks 0 1 2;");
    }

    private static void links() {
        reads(FINE, "players 3;link 0 1 1 9;link 2 0 9 1;link 1 2 5 5;");
        reads(FINE, "players 3;link0 1 1 9;");
        reads(RANGE, "players 3;link ^3 0 1 1;");
        reads(RANGE, "players 3;link 0 ^3 1 1;");
        reads(RANGE, "players 3;link 0 1 ^0 1;");
        reads(RANGE, "players 3;link 0 1 ^10 1;");
        reads(RANGE, "players 3;link 0 1 1 ^0;");
        reads(RANGE, "players 3;link 0 1 1 ^10;");
        reads(TWICE, "players 3;link 1 ^1 2 2;");
        reads(TWICE, "players 3;link 1 ^01 0 2;");
        reads(TWICE, "players 3;link 0 1 2 2;link 0 ^1 2 2;");
        reads(TWICE, "players 3;link 0 1 2 2;link 1 ^0 2 2;");
        reads(RANGE, "players 3;link 0 1 2 2;link 1 ^3 2 2;");
        reads(RANGE, "players 1;link 0 ^1 2 2;");
        reads(TWICE, "players 1;link 0 ^0 2 2;");
        reads(SYNTAX, "players 3;link 0 1 1^;");
        reads(SYNTAX, "players 3;link 0 1 1 ^-1;");
        reads(SYNTAX, "players 3;link 0 1 1 1^");
        reads(SYNTAX, "players 3;link 0 1 1 1 ^1;");
    }

    private static void onceEach() {
        reads(FINE, "players 3;need 1;patience 1;margin 1;");
        reads(FINE, "players 3;margin song;patience 200;need 3;");
        reads(RANGE, "players 3;need ^0;");
        reads(RANGE, "players 3;need ^4;");
        reads(RANGE, "players 3;patience ^0;");
        reads(RANGE, "players 3;patience ^201;");
        reads(SYNTAX, "players 3;need 1;^need 1;");
        reads(SYNTAX, "players 3;need 3; ^need 9;");
        reads(SYNTAX, "players 3;patience 50;^patience 50;");
        reads(SYNTAX, "players 3;margin 1;^margin 1;");
        reads(SYNTAX, "players 3;margin 1;^margin ((((((");
        reads(SYNTAX, "players 3;need^;");
        reads(SYNTAX, "players 3;patience^;");
        reads(SYNTAX, "players 3;margin^;");
        reads(SYNTAX, "players 3;need ^x;");
        reads(SYNTAX, "players 3;patience ^-1;");
    }

    private static void sums() {
        reads(FINE, "players 3;margin 0;");
        reads(FINE, "players 3;margin 9999;");
        reads(FINE, "players 3;margin players*delay/up-song+(3);");
        reads(FINE, "players 3;margin ( ( ( ( 1 ) ) ) );");
        reads(FINE, "players 3;margin((((1))))*((((2))));");
        reads(FINE, "players 3;margin 5/up;");
        reads(RANGE, "players 3;margin ^10000;");
        reads(RANGE, "players 3;margin 1+^10000");
        reads(RANGE, "players 3;margin (^00010000");
        reads(SYNTAX, "players 3;margin ^-1;");
        reads(SYNTAX, "players 3;margin 1+^;");
        reads(SYNTAX, "players 3;margin 1*^/2;");
        reads(SYNTAX, "players 3;margin 1 ^2;");
        reads(SYNTAX, "players 3;margin 5^up;");
        reads(SYNTAX, "players 3;margin ^upsong;");
        reads(SYNTAX, "players 3;margin ^u;");
        reads(SYNTAX, "players 3;margin ^need;");
        reads(SYNTAX, "players 3;margin (^);");
        reads(SYNTAX, "players 3;margin (1^;");
        reads(SYNTAX, "players 3;margin (1^");
        reads(SYNTAX, "players 3;margin 1^);");
        reads(SYNTAX, "players 3;margin 1^(;");
        reads(SYNTAX, "players 3;margin ((((1)))^(;");
        reads(SYNTAX, "players 3;margin 1^%2;");
        reads(DEEP, "players 3;margin ((((^(");
        reads(DEEP, "players 3;margin ((((1+^(2");
        reads(DEEP, "players 3;margin (((1)+((2))*((^(");
        reads(SYNTAX, "players 3;margin ((((1)+(2^");
    }

    private static void longest() {
        StringBuilder sum = new StringBuilder("players 1;margin 1");
        while (sum.length() < 598) {
            sum.append("+1");
        }
        OneBeat x = new OneBeat();
        String text = sum.append("; ").toString();
        Check.same("length of the longest text", text.length(), 600);
        Check.same("load of the longest text", Check.load(x, text), 1);
        Check.same("margin of the longest text", x.state(12), 291);
        StringBuilder zeros = new StringBuilder("players ");
        while (zeros.length() < 598) {
            zeros.append("0");
        }
        Check.same("load of many zeros", Check.load(x, zeros.append("7;").toString()), 7);
        StringBuilder empty = new StringBuilder();
        while (empty.length() < 600) {
            empty.append(" ");
        }
        Check.same("load of spaces alone", Check.load(x, empty.toString()), SYNTAX);
        Check.same("offset in spaces alone", x.errorOffset(), 600);
        Check.same("players stay", x.state(0), 7);
    }

    public static void main(String[] args) {
        head();
        clocks();
        links();
        onceEach();
        sums();
        longest();
        Check.end("ErrorsTest");
    }
}
