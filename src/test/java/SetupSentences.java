/** The sentences about the setup text: its grammar, its ranges, and the first error in it. */
final class SetupSentences extends Check {
    // Each statement, each word and each mark of the grammar.
    private static final String WHOLE = "players 3; clock 1 -20 3; link 0 1 2 3; need 2; patience 40;"
        + " margin (players + delay) * up / song - 4;";

    private SetupSentences() {
    }

    static void run() {
        Document.says("Setup text:");
        Document.says("The setup text is read from an input buffer of at most 600 bytes.");
        longest();
        Document.says("Its grammar is:");
        grammar();
        numbersAndWords();
        spaces();
        ranges();
        links();
        onceEach();
        parentheses();
        firstError();
        syntaxErrors();
        rangeErrors();
        Document.says("- REPEATED: the player of a clock that was told already, at its first digit; the second "
            + "player of a link that is the first one, or to which there is a link from the first one already, at "
            + "its first digit.");
        repeated();
        Document.says("- TOO_DEEP: an opening parenthesis inside 4 others, at that parenthesis.");
        tooDeep();
    }

    private static String spaced(String text, int length) {
        StringBuilder longer = new StringBuilder(text);
        while (longer.length() < length) {
            longer.append(' ');
        }
        return longer.toString();
    }

    private static void longest() {
        for (int length = 599; length <= 600; length++) {
            OneBeat x = new OneBeat();
            String text = spaced("players 2;", length - 7) + "need 1;";
            same("length", text.length(), length);
            same("bytes", put(x, text), 600);
            same("load of " + length, x.load(length), 2);
            same("read to its end", x.propose(1), 1);
            same("read to its end", x.proposal(5), 1);
        }
        OneBeat y = new OneBeat();
        same("601 bytes do not go in", put(y, spaced("players 2;", 601)), -1);
        throwsJust("load(601)", ARGUMENT, () -> y.load(601));
        same("load(600)", y.load(600), 2);
        OneBeat z = new OneBeat();
        same("an error at the last byte", load(z, spaced("players 2;", 599) + "x"), SYNTAX);
        same("its offset", z.errorOffset(), 599);
        same("an error at the end", load(z, spaced("players 2", 600)), SYNTAX);
        same("its offset", z.errorOffset(), 600);
        same("a word at the end", load(z, spaced("players 2;", 596) + "need"), SYNTAX);
        same("its offset", z.errorOffset(), 600);
        same("a number at the end", load(z, spaced("players 2;need", 599) + "1"), SYNTAX);
        same("its offset", z.errorOffset(), 600);
        same("a number out of range at the end", load(z, spaced("players 2;need", 599) + "9"), RANGE);
        same("its offset", z.errorOffset(), 599);
    }

    private static void grammar() {
        Document.says("setup = \"players\" number \";\" { statement \";\" }");
        reads(FINE, "players 3;");
        reads(FINE, "players 3;need 1;");
        reads(FINE, WHOLE);
        reads(SYNTAX, "players 3^");
        reads(SYNTAX, "players ^;");
        reads(SYNTAX, "^3;");
        reads(SYNTAX, "^need 1;players 3;");
        reads(SYNTAX, "players 3;^players 3;");
        reads(SYNTAX, "players 3;^;");
        reads(SYNTAX, "players 3;need 1^");
        reads(SYNTAX, "players 3 ^need 1;");
        reads(SYNTAX, "players 3;need 1 ^patience 2;");
        Document.says("statement = \"clock\" number sign sign | \"link\" number number number number | \"need\" "
            + "number | \"patience\" number | \"margin\" sum");
        String[] statements = {"clock 1 2 3", "link 0 1 2 3", "need 2", "patience 2", "margin 2"};
        for (String s : statements) {
            String text = "players 3;" + s;
            reads(FINE, text + ";");
            reads(SYNTAX, text + " ^1;");
            String less = text.substring(0, text.length() - 2);
            reads(SYNTAX, less + "^;");
        }
        reads(SYNTAX, "players 3;^sum 1;");
        reads(SYNTAX, "players 3;need ^-1;");
        reads(SYNTAX, "players 3;need ^(1);");
        reads(SYNTAX, "players 3;patience ^up;");
        wordsLetterByLetter();
        grammarOfSigns();
        grammarOfSums();
    }

    /** Each word of the grammar with one letter another one, one more or one less is none of it. */
    private static void wordsLetterByLetter() {
        String[] words = {"players", "clock", "link", "need", "patience", "margin", "players", "delay", "up", "song"};
        String[] before = {"", "players 3;", "players 3;", "players 3;", "players 3;", "players 3;", "players 3;margin ",
            "players 3;margin ", "players 3;margin ", "players 3;margin "};
        for (int i = 0; i < words.length; i++) {
            String w = words[i];
            for (int k = 0; k < w.length(); k++) {
                String left = w.substring(0, k);
                String right = w.substring(k + 1);
                reads(SYNTAX, before[i] + "^" + left + (char) (w.charAt(k) + 1) + right + " 1;");
                reads(SYNTAX, before[i] + "^" + left + (char) (w.charAt(k) - 1) + right + " 1;");
                reads(SYNTAX, before[i] + "^" + left + w.charAt(k) + w.charAt(k) + right + " 1;");
                reads(SYNTAX, before[i] + "^" + left + right + " 1;");
            }
        }
    }

    private static void grammarOfSigns() {
        Document.says("sign = [ \"-\" ] number");
        reads(FINE, "players 3;clock 0 1 2;clock 1 -1 - 2;clock 2-0-0;");
        reads(SYNTAX, "players 3;clock 0 -^-1 2;");
        reads(SYNTAX, "players 3;clock 0 1 - ^-2;");
        reads(SYNTAX, "players 3;clock 0 ^+1 2;");
        reads(SYNTAX, "players 3;clock ^-0 1 2;");
        reads(SYNTAX, "players 3;clock 0 ^(1) 2;");
        reads(SYNTAX, "players 3;clock 0 1 -^;");
    }

    private static void grammarOfSums() {
        Document.says("sum = term { ( \"+\" | \"-\" ) term }");
        reads(FINE, "players 3;margin 1+2-3+4;");
        reads(SYNTAX, "players 3;margin ^+1;");
        reads(SYNTAX, "players 3;margin ^-1;");
        reads(SYNTAX, "players 3;margin 1+^;");
        reads(SYNTAX, "players 3;margin 1-^;");
        reads(SYNTAX, "players 3;margin 1+^-2;");
        Document.says("term = factor { ( \"*\" | \"/\" ) factor }");
        reads(FINE, "players 3;margin 1*2/3*4;");
        reads(SYNTAX, "players 3;margin ^*1;");
        reads(SYNTAX, "players 3;margin ^/1;");
        reads(SYNTAX, "players 3;margin 1*^;");
        reads(SYNTAX, "players 3;margin 1/^;");
        reads(SYNTAX, "players 3;margin 1*^-2;");
        reads(SYNTAX, "players 3;margin 1^%2;");
        Document.says("factor = number | \"players\" | \"delay\" | \"up\" | \"song\" | \"(\" sum \")\"");
        String[] factors = {"0", "players", "delay", "up", "song", "(1)", "(up + (song))"};
        for (String f : factors) {
            reads(FINE, "players 3;margin " + f + ";");
            reads(FINE, "players 3;margin 1+2*" + f + "-3;");
        }
        String[] others = {"clock", "link", "need", "patience", "margin", "sum", "u", "ups", "player", "playerss", "a", "z"};
        for (String o : others) {
            reads(SYNTAX, "players 3;margin 1+^" + o + ";");
        }
        reads(SYNTAX, "players 3;margin (^);");
        reads(SYNTAX, "players 3;margin (1^;");
        reads(SYNTAX, "players 3;margin 1^);");
        reads(SYNTAX, "players 3;margin (1 ^2);");
        reads(SYNTAX, "players 3;margin 2^(1);");
        reads(SYNTAX, "players 3;margin ^[1];");
    }

    private static void numbersAndWords() {
        Document.says("A number is a run of decimal digits, of any length (leading zeros do not matter); a word is a "
            + "run of the letters a to z.");
        StringBuilder zeros = new StringBuilder();
        while (zeros.length() < 580) {
            zeros.append('0');
        }
        OneBeat x = new OneBeat();
        same("leading zeros", load(x, "players " + zeros + "8;"), 8);
        same("zeros alone", load(x, "players " + zeros + ";"), RANGE);
        same("offset", x.errorOffset(), 8);
        same("a long one", load(x, "players 1" + zeros + ";"), RANGE);
        same("offset", x.errorOffset(), 8);
        reads(FINE, "players 02;clock 001 -000999 0000050;margin 0009999;");
        reads(FINE, "players 8;margin 1234+5678+9090+0+07;");
        // What they are in 32 and in 64 bits is 2 and 3.
        reads(RANGE, "players ^4294967298;");
        reads(RANGE, "players ^18446744073709551619;");
        reads(RANGE, "players 3;need ^4294967297;");
        reads(RANGE, "players 3;margin ^4294967296;");
        reads(RANGE, "players 3;margin ^18446744073709551616;");
        reads(RANGE, "players 3;clock 1 ^-4294967296 0;");
        reads(RANGE, "players 3;patience ^2147483648;");
        reads(SYNTAX, "players 3^.0;");
        reads(SYNTAX, "players 3^x;");
        reads(SYNTAX, "players 3^e0;");
        char[] beside = {'/', ':', '`', '{', '@', 'A', 'Z', '[', '_', '"'};
        for (char c : beside) {
            reads(SYNTAX, "players 3;need 1^" + c + ";");
            reads(SYNTAX, "players 3;^nee" + c + "d 1;");
            reads(SYNTAX, "players 3;^" + c + "need 1;");
            reads(SYNTAX, "players 3;need^" + c + " 1;");
        }
        reads(SYNTAX, "^Players 3;");
        reads(SYNTAX, "players 3;^NEED 1;");
        Document.says("Each run is as long as possible.");
        reads(RANGE, "players 3;link 0 1 ^23;");
        reads(SYNTAX, "players 3;link 0 1 2^;");
        reads(SYNTAX, "players 3;link 01 2 3^;");
        reads(RANGE, "players 3;margin ^12345;");
        reads(SYNTAX, "players 3;margin ^upsong;");
        reads(SYNTAX, "players 3;^needneed 1;");
        reads(SYNTAX, "^playersplayers 3;");
        reads(SYNTAX, "players 3;^needa 1;");
        reads(SYNTAX, "players 3;^needz 1;");
        reads(SYNTAX, "players 3;^aneed 1;");
        reads(SYNTAX, "players 3;^zneed 1;");
        reads(SYNTAX, "players 3;margin ^zup;");
        reads(SYNTAX, "players 3;margin ^upa;");
    }

    private static void spaces() {
        Document.says("Spaces (byte 32) may precede any token and may follow the last one; a word and a number side "
            + "by side need none between them.");
        reads(FINE, spaced("", 9) + WHOLE);
        reads(FINE, WHOLE + spaced("", 9));
        reads(FINE, WHOLE.replace(" ", "   "));
        reads(FINE, "  players  3  ;  clock  1  -  20  3  ;  margin  (  up  +  1  )  *  2  ;  ");
        reads(FINE, "players3;clock1-20 3;link0 1 2 3;need2;patience40;margin(players+delay)*up/song-4;");
        reads(SYNTAX, "players 3;margin 1^up;");
        reads(SYNTAX, "^play ers 3;");
        reads(SYNTAX, "players 3;need 1 ^0;");
        Document.says("No other byte separates tokens.");
        for (int b = 0; b < 256; b++) {
            if (b != ' ') {
                readsAt(SYNTAX, 10, "players 3;" + (char) b + "need 1;");
                readsAt(SYNTAX, 17, "players 3;need 1;" + (char) b);
                readsAt(SYNTAX, 0, (char) b + "players 3;need 1;");
                if (b < '0' || b > '9') {
                    readsAt(SYNTAX, 18, "players 3;link 0 1" + (char) b + "2 2;");
                }
            }
        }
        reads(FINE, "players 3; need 1;");
        reads(FINE, "players 3;need 1; ");
        reads(FINE, " players 3;need 1;");
        reads(FINE, "players 3;link 0 1 2 2;");
    }

    /** What stands between the two texts is fine from the least to the most number, and no further. */
    private static void range(String before, int least, int most, String behind) {
        reads(FINE, before + least + behind);
        reads(FINE, before + most + behind);
        if (least < most) {
            reads(FINE, before + (least + 1) + behind);
            reads(FINE, before + (most - 1) + behind);
        }
        if (least > 0) {
            reads(RANGE, before + "^" + (least - 1) + behind);
        }
        reads(RANGE, before + "^" + (most + 1) + behind);
    }

    private static void ranges() {
        Document.says("The number of players is 1 to 8.");
        range("players ", 1, 8, ";");
        Document.says("Those of clock are a player, an offset and a drift (both 0 without it).");
        for (int n = 1; n <= 8; n++) {
            range("players " + n + ";clock ", 0, n - 1, " 0 0;");
        }
        range("players 2;clock 1 ", 0, 999, " 0;");
        range("players 2;clock 1 0 ", 0, 50, ";");
        reads(FINE, "players 2;clock 1 -998 -49;");
        reads(FINE, "players 2;clock 1 -999 -50;");
        reads(RANGE, "players 2;clock 1 ^-1000 0;");
        reads(RANGE, "players 2;clock 1 0 ^-51;");
        OneBeat x = with("players 3;clock 1 30 40;");
        x.pass(50);
        same("offset and drift", x.player(1, 1), 50 + 30 + 2);
        same("without a clock statement", x.player(0, 1), 50);
        same("without a clock statement", x.player(2, 1), 50);
        load(x, "players 3;clock 2 -30 -40;");
        x.pass(50);
        same("the clock of the setup before is gone", x.player(1, 1), 50);
        same("offset and drift", x.player(2, 1), 50 - 30 - 2);
        Document.says("Need is how many votes are needed, 1 to the number of players (all of them without it).");
        for (int n = 1; n <= 8; n++) {
            range("players " + n + ";need ", 1, n, ";");
        }
        needs();
        Document.says("Patience is 1 to 200 (50 without it).");
        range("players 2;patience ", 1, 200, ";");
        int[] told = {1, 2, 199, 200};
        for (int p : told) {
            OneBeat y = with("players 2;patience " + p + ";");
            y.propose(1);
            same("deadline", y.proposal(2), p);
        }
        OneBeat z = with("players 2;patience 7;");
        load(z, "players 2;");
        z.propose(1);
        same("without patience", z.proposal(2), 50);
        Document.says("A number as a factor is 0 to 9999.");
        range("players 2;margin ", 0, 9999, ";");
        range("players 2;margin (1+2*", 0, 9999, ")/3;");
    }

    private static void needs() {
        for (int need = 1; need <= 3; need++) {
            OneBeat x = with("players 3;link 0 1 1 1;link 0 2 1 2;need " + need + ";");
            x.propose(1);
            same("at once by " + need, x.proposal(5), need == 1 ? 1 : 0);
            x.pass(2);
            same("by two votes of " + need, x.proposal(5), need <= 2 ? 1 : 0);
            x.pass(1);
            same("by three votes of " + need, x.proposal(5), 1);
        }
        OneBeat y = with("players 3;link 0 1 1 1;link 0 2 1 2;need 1;");
        load(y, "players 3;link 0 1 1 1;link 0 2 1 2;");
        y.propose(1);
        y.pass(2);
        same("two of all", y.proposal(5), 0);
        y.pass(1);
        same("all", y.proposal(5), 1);
    }

    private static void links() {
        Document.says("Those of link are two players, the delay from the first to the second one, and the delay from "
            + "the second to the first one (1 to 9 each); both links are open.");
        for (int n = 2; n <= 8; n++) {
            String text = "players " + n + ";link ";
            reads(TWICE, text + "0 ^0 1 1;");
            reads(FINE, text + "0 1 1 1;");
            reads(FINE, text + "0 " + (n - 1) + " 1 1;");
            reads(RANGE, text + "0 ^" + n + " 1 1;");
            reads(FINE, text + (n - 1) + " 0 1 1;");
            reads(RANGE, text + "^" + n + " 0 1 1;");
        }
        range("players 2;link 1 0 ", 1, 9, " 1;");
        range("players 2;link 1 0 1 ", 1, 9, ";");
        OneBeat x = with("players 8;link 7 2 9 1;");
        for (int a = 0; a < 8; a++) {
            for (int b = 0; b < 8; b++) {
                same("link", x.link(a, b), a == 7 && b == 2 ? 9 : a == 2 && b == 7 ? 1 : 0);
            }
        }
        x.cut(7, 2, true);
        x.cut(2, 7, true);
        load(x, "players 8;link 2 7 3 4;");
        same("open after a load", x.link(2, 7), 3);
        same("open after a load", x.link(7, 2), 4);
    }

    private static void onceEach() {
        Document.says("The statements need, patience and margin may occur once each.");
        String[] orders = {"need 1;patience 2;margin 3;", "margin 3;need 1;patience 2;", "patience 2;margin 3;need 1;"};
        for (String o : orders) {
            reads(FINE, "players 3;" + o);
            reads(SYNTAX, "players 3;" + o + "^need 1;");
            reads(SYNTAX, "players 3;" + o + "^patience 2;");
            reads(SYNTAX, "players 3;" + o + "^margin 3;");
        }
        reads(FINE, "players 3;clock 0 1 1;clock 1 1 1;clock 2 1 1;link 0 1 1 1;link 0 2 1 1;link 1 2 1 1;");
        reads(SYNTAX, "players 3;need 3;^need 3;");
        reads(SYNTAX, "players 3;patience 50;^patience 50;");
        reads(SYNTAX, "players 3;margin 0;^margin 0;");
        OneBeat x = with("players 3;need 1;patience 2;margin 3;");
        same("once in each text", load(x, "players 3;need 1;patience 2;margin 3;"), 3);
    }

    private static void parentheses() {
        Document.says("Parentheses nest at most 4 deep.");
        reads(FINE, "players 3;margin (((1)));");
        reads(FINE, "players 3;margin ((((1))));");
        reads(DEEP, "players 3;margin ((((^(1)))));");
        reads(FINE, "players 3;margin ((((1))))+((((2))))*((((3))));");
        reads(FINE, "players 3;margin (1)+(2)+(3)+(4)+(5)+(6);");
        reads(FINE, "players 3;margin ((((1))*(2))+(3))*(4);");
    }

    private static void firstError() {
        Document.says("The first error in the text is the one with the smallest offset.");
        reads(RANGE, "players ^9;need 0;x");
        reads(SYNTAX, "players 3;^x need 0;");
        reads(RANGE, "players 3;need ^0;x");
        reads(TWICE, "players 3;link 0 ^0 99 99;need 9;");
        reads(RANGE, "players 3;link ^3 3 1 1;");
        reads(TWICE, "players 3;clock 1 1 1;clock ^1 9999 9999 x");
        reads(RANGE, "players 3;clock 1 ^-1000 x");
        reads(SYNTAX, "players 3;clock 1 - ^x");
        reads(DEEP, "players 3;margin ((((^(10000;");
        reads(RANGE, "players 3;margin ((((^10000+(;");
        Document.says("If several kinds of error have the same offset, the first one in this list counts:");
        // A parenthesis that is too deep where none may stand, numbers out of range where none may stand.
        reads(SYNTAX, "players 3;margin ((((1^(2;");
        reads(SYNTAX, "players 3;margin ((((up^(");
        reads(SYNTAX, "players 3 ^99;");
        reads(SYNTAX, "players 3;need 1 ^99;");
        reads(SYNTAX, "players 3;margin 1 ^99999;");
        reads(SYNTAX, "players 3;clock 2 1 1 ^-99;");
        reads(SYNTAX, "players 3;^99;");
    }

    private static void syntaxErrors() {
        Document.says("- SYNTAX_ERROR: a token or byte that the grammar does not allow here, at its first byte; the "
            + "end of the text, at its length, if the text ends too early; a second need, patience or margin, at its "
            + "first letter.");
        // Each beginning of the whole text: it ends at a ';' or is cut off in a word or anywhere else.
        for (int cut = 0; cut < WHOLE.length(); cut++) {
            String text = WHOLE.substring(0, cut);
            int word = cut;
            while (word > 0 && isLetter(WHOLE.charAt(word - 1)) && isLetter(WHOLE.charAt(cut))) {
                word--;
            }
            boolean isWhole = text.trim().endsWith(";");
            boolean isInWord = word < cut;
            if (isWhole && !isInWord) {
                reads(FINE, text);
            } else {
                readsAt(SYNTAX, isInWord ? word : cut, text);
            }
        }
        reads(FINE, WHOLE);
        // A byte that stands nowhere, wherever no word and no number is parted by it.
        for (int at = 0; at < WHOLE.length(); at++) {
            if (at == 0 || !isLetter(WHOLE.charAt(at - 1))) {
                reads(SYNTAX, WHOLE.substring(0, at) + "^#" + WHOLE.substring(at));
                reads(SYNTAX, WHOLE.substring(0, at) + "^\u00ff" + WHOLE.substring(at));
            }
        }
        reads(SYNTAX, "^");
        reads(SYNTAX, " ^");
        reads(SYNTAX, "players 3;need 1;  ^need 1;");
        reads(SYNTAX, "players 3;patience 1;  ^patience 1;");
        reads(SYNTAX, "players 3;margin 1;  ^margin 1;");
        reads(SYNTAX, "players 3;need 1;^need");
    }

    private static boolean isLetter(char c) {
        return c >= 'a' && c <= 'z';
    }

    private static void rangeErrors() {
        Document.says("- OUT_OF_RANGE: a number outside its range, at its first digit (of a sign: at its \"-\", if "
            + "it has one); a player that there is not.");
        reads(RANGE, "players   ^0009;");
        reads(RANGE, "players 3;clock 1   ^-  1000 0;");
        reads(RANGE, "players 3;clock 1   ^1000 0;");
        reads(RANGE, "players 3;clock 1 0   ^-  51;");
        reads(RANGE, "players 3;clock 1 0   ^0051;");
        reads(RANGE, "players 3;clock 1 0^-51;");
        reads(RANGE, "players 3;clock   ^3 0 0;");
        reads(RANGE, "players 3;link   ^3 0 1 1;");
        reads(RANGE, "players 3;link 0   ^3 1 1;");
        reads(RANGE, "players 3;link 0 1   ^0 1;");
        reads(RANGE, "players 3;link 0 1 1   ^010;");
        reads(RANGE, "players 3;need   ^4;");
        reads(RANGE, "players 3;patience   ^201;");
        reads(RANGE, "players 3;margin 1 + ( 2 *  ^10000");
    }

    private static void repeated() {
        reads(TWICE, "players 3;clock 1 1 1;clock   ^01 1 1;");
        reads(FINE, "players 3;clock 1 1 1;clock 0 1 1;clock 2 1 1;");
        reads(TWICE, "players 3;clock 0 0 0;clock ^0 0 0;");
        reads(TWICE, "players 3;clock 2 0 0;clock 1 0 0;clock ^2 0 0;");
        reads(TWICE, "players 8;clock 7 0 0;clock ^7 0 0;");
        reads(TWICE, "players 3;link 1   ^1 1 1;");
        reads(TWICE, "players 3;link 0   ^00 1 1;");
        reads(TWICE, "players 3;link 0 1 1 1;link 0   ^1 1 1;");
        reads(TWICE, "players 3;link 0 1 1 1;link 1   ^0 1 1;");
        reads(TWICE, "players 8;link 7 6 1 1;link 6   ^7 1 1;");
        reads(FINE, "players 3;link 0 1 1 1;link 1 2 1 1;link 2 0 1 1;");
        OneBeat x = with("players 3;clock 1 1 1;link 0 1 1 1;");
        same("told in the text before", load(x, "players 3;clock 1 2 2;link 1 0 2 2;"), 3);
    }

    private static void tooDeep() {
        reads(DEEP, "players 3;margin (((( ^(1");
        reads(DEEP, "players 3;margin ((((1+^(2))))));");
        reads(DEEP, "players 3;margin ((((1)+2)*(3)+((^(4");
        reads(FINE, "players 3;margin ((((1)+2)*(3)+((4))));");
        reads(DEEP, "players 3;margin 1*(2-(3/(4+(5-^(6");
        reads(SYNTAX, "players 3;margin 1*(2-(3/(4+(5-6^");
    }
}
