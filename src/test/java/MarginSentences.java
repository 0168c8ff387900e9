/** The sentences about the margin and its expression. */
final class MarginSentences extends Check {
    private static final String TRIO = "players 3;link 0 1 4 6;link 1 2 5 1;";

    private MarginSentences() {
    }

    static void run() {
        Document.says("The margin is the value of an expression, limited to 1 to 1000, in which players is the "
            + "number of players, delay the greatest delay of all open links (0 if there are none), up the number of "
            + "players who are up, and song the song that is proposed.");
        limits();
        players();
        delays();
        ups();
        songs();
        Document.says("Division by 0 gives 0;");
        divisionBy0();
        Document.says("the operations of one sum or term are made from the left to the right, and the result of each "
            + "one is limited to the range -1000000 to 1000000: it becomes the nearer bound if it is outside of it.");
        order();
        bounds();
        Document.says("Without a margin statement the margin is 2 * the delay + 1.");
        withoutOne();
    }

    /** Both what state(12) tells and what a proposal of song 1 gets. */
    private static void margin(String sum, int due) {
        OneBeat x = with("players 3;link 0 2 4 6;margin " + sum + ";");
        same("margin " + sum, x.state(12), due);
        same("beat by margin " + sum, x.propose(1), due);
    }

    private static void limits() {
        margin("0", 1);
        margin("1", 1);
        margin("2", 2);
        margin("0-1", 1);
        margin("0-9999", 1);
        margin("999", 999);
        margin("1000", 1000);
        margin("1001", 1000);
        margin("9999", 1000);
        margin("9999*9999", 1000);
        margin("0-9999*9999", 1);
    }

    private static void players() {
        for (int n = 1; n <= 8; n++) {
            OneBeat x = with("players " + n + ";margin players;");
            same("players", x.state(12), n);
            x.power(0, false);
            same("players, up or not", x.state(12), n);
        }
    }

    private static void delays() {
        OneBeat x = with(TRIO + "margin delay;");
        same("of all", x.state(12), 6);
        x.cut(1, 0, true);
        same("of the open ones", x.state(12), 5);
        x.cut(1, 2, true);
        same("of two", x.state(12), 4);
        x.cut(0, 1, true);
        same("of one", x.state(12), 1);
        x.cut(1, 0, false);
        same("open again", x.state(12), 6);
        OneBeat y = with("players 8;link 7 6 9 1;margin delay+20;");
        same("of the last players", y.state(12), 29);
        y.cut(7, 6, true);
        same("of the only open one", y.state(12), 21);
        y.cut(6, 7, true);
        same("of none", y.state(12), 20);
        same("without links", with("players 8;margin delay+20;").state(12), 20);
    }

    private static void ups() {
        OneBeat x = with("players 8;margin up+10;");
        for (int p = 7; p >= 0; p--) {
            same("up", x.state(12), p + 11);
            x.power(p, false);
        }
        same("nobody up", x.state(12), 10);
        x.power(4, true);
        same("beat with one up", lead(x, 4).propose(1), 11);
    }

    private static OneBeat lead(OneBeat x, int player) {
        x.lead(player);
        return x;
    }

    private static void songs() {
        int[] songs = {0, 1, 2, 98, 99};
        for (int song : songs) {
            OneBeat x = with("players 1;margin song+10;");
            same("state(12) is of song 1", x.state(12), 11);
            same("beat of song " + song, x.propose(song), song + 10);
            same("state(12) is of song 1 still", x.state(12), 11);
        }
        same("limited by song", with("players 1;margin 901+song;").propose(99), 1000);
        same("limited by song", with("players 1;margin 902+song;").propose(99), 1000);
        same("limited by song", with("players 1;margin 901+song;").propose(98), 999);
        same("limited by song", with("players 1;margin song;").propose(0), 1);
    }

    private static void divisionBy0() {
        margin("7/0", 1);
        margin("7/0+5", 5);
        margin("5+7/(1-1)", 5);
        margin("0/0+3", 3);
        margin("7/0*9+4", 4);
        margin("7/1", 7);
        margin("20-7/(0-1)", 27);
        margin("8/(players-3)+6", 6);
        margin("8/(players-2)+6", 14);
    }

    private static void order() {
        margin("20-3-4", 13);
        margin("20-(3-4)", 21);
        margin("100/7/2", 7);
        margin("100/(7/2)", 33);
        margin("100/7*2", 28);
        margin("2*100/7", 28);
        margin("20-3+4", 21);
        margin("1+2*3", 7);
        margin("(1+2)*3", 9);
        margin("20-6/2", 17);
        margin("2*3+4*5", 26);
        margin("99-2*3-4*5/2", 83);
        margin("((((7))))", 7);
        margin("5*(2+(3*(4-(1))))", 55);
        margin("(0-7)/2+10", 7);
        margin("(0-7)/(0-2)+10", 13);
        margin("7/(0-2)+10", 7);
        margin("players*100+delay*10+up+song", 364);
    }

    private static void bounds() {
        // One less, the bound itself, and one more, by each operation that can reach it.
        margin("1000*1000-1-9999*100", 99);
        margin("1000*1000-9999*100", 100);
        margin("1000*1000+1-9999*100", 100);
        margin("999*1001-9999*100", 99);
        margin("1001*1000-9999*100", 100);
        margin("9999*9999-9999*100", 100);
        margin("9999*100+100-9999*100", 100);
        margin("9999*100+101-9999*100", 100);
        margin("9999*100+99-9999*100", 99);
        margin("9999*100-(0-99)-9999*100", 99);
        margin("9999*100-(0-100)-9999*100", 100);
        margin("9999*100-(0-101)-9999*100", 100);
        margin("0-1000*1000+1+9999*100+200", 101);
        margin("0-1000*1000+9999*100+200", 100);
        margin("0-1000*1000-1+9999*100+200", 100);
        margin("(0-1000)*999-999+9999*100+200", 101);
        margin("(0-1000)*1000+9999*100+200", 100);
        margin("(0-1000)*1001+9999*100+200", 100);
        margin("1000*(0-1001)+9999*100+200", 100);
        margin("0-9999*100-99+9999*100+200", 101);
        margin("0-9999*100-100+9999*100+200", 100);
        margin("0-9999*100-101+9999*100+200", 100);
        // Limited at once, ahead of what comes behind it.
        margin("9999*9999*9999/9999", 100);
        margin("9999*9999/9999", 100);
        margin("9999*9999-9999*9999+3", 3);
        margin("(9999*9999)*(9999*9999)/9999", 100);
        margin("(0-9999*9999)*(9999*9999)/9999+200", 100);
        margin("(0-9999*9999)*(0-9999*9999)/9999", 100);
        margin("(0-9999*9999)/(0-1)/9999", 100);
        margin("0-9999*9999-9999*9999+9999*100+200", 100);
        margin("9999*9999+9999*9999-9999*100", 100);
    }

    private static void withoutOne() {
        for (int d = 1; d <= 9; d++) {
            OneBeat x = with("players 2;link 1 0 " + d + " 1;");
            same("delay " + d, x.state(12), 2 * d + 1);
            same("beat by delay " + d, x.propose(99), 2 * d + 1);
            x.cut(1, 0, true);
            same("delay 1", x.state(12), 3);
            x.cut(0, 1, true);
            same("no open link", x.state(12), 1);
        }
        same("no link", with("players 8;").state(12), 1);
        OneBeat y = with(TRIO + "margin 77;");
        same("with one", y.state(12), 77);
        load(y, TRIO);
        same("the one before is gone", y.state(12), 13);
    }
}
