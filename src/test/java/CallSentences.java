/** The sentences about changes and their undoing, about exceptions, and the constants. */
final class CallSentences extends Check {
    private static final String NEAR = "players 2;link 0 1 1 1;";
    private static final int MIN = Integer.MIN_VALUE;
    private static final int MAX = Integer.MAX_VALUE;

    /** One call of an object. */
    private interface Call {
        void on(OneBeat x);
    }

    private CallSentences() {
    }

    static void run() {
        Document.says("Changes:");
        Document.says("The changing methods are load (when it succeeds), propose, ask, pass, power, cut and lead; "
            + "each such call that does not throw an exception is a change, also if all data stay as they were.");
        whatIsAChange();
        whatIsNone();
        Document.says("The latest 8 changes can be undone, the latest one first; a change is final as soon as 8 "
            + "later ones, none of them undone, have been made.");
        howManyCanBeUndone();
        undoneAndMadeAnew();
        madeTwice();
        looksLeaveAll();
        Document.says("Before the first successful load there is one player, with offset and drift 0, need is 1, "
            + "patience 50, and there is no expression.");
        beforeTheFirstLoad();
        Document.says("In the methods, IndexOutOfBoundsException is thrown if a parameter named player, from or to "
            + "is not the index of a player.");
        indexes();
        Document.says("If several exceptions apply to a call, the one that is listed first with the method is thrown.");
        theFirstOneListed();
        Document.says("A method that throws an exception changes nothing.");
        nothingChanges();
        constants();
    }

    private static void changes(String name, int due, Call call) {
        OneBeat x = with(NEAR);
        long before = x.checksum();
        call.on(x);
        long after = x.checksum();
        same(name + ": can be undone", x.undo(), due);
        if (due == 1) {
            same(name + ": back", x.checksum(), before);
            same(name + ": the load", x.undo(), 0);
        }
        same(name + ": all is undone", x.undo(), -1);
        same(name + ": a new object", x.state(0), 1);
        holds(name + ": a call that is no change leaves all", due == 1 || before == after);
    }

    private static void whatIsAChange() {
        changes("load", 1, x -> load(x, "players 3;"));
        changes("load of the same", 1, x -> load(x, NEAR));
        changes("propose", 1, x -> x.propose(0));
        changes("ask", 1, x -> x.ask(1));
        changes("pass", 1, x -> x.pass(1));
        changes("power down", 1, x -> x.power(1, false));
        changes("power up of who is up", 1, x -> x.power(1, true));
        changes("cut", 1, x -> x.cut(0, 1, true));
        changes("opening of an open link", 1, x -> x.cut(0, 1, false));
        changes("lead", 1, x -> x.lead(1));
        changes("lead of who leads", 1, x -> x.lead(0));
        OneBeat x = with("players 3;");
        same("a lost ask", x.ask(1), false);
        same("is a change", x.undo(), 1);
        same("back", x.state(5), 0);
    }

    private static void whatIsNone() {
        changes("load with an error", 0, x -> load(x, "players 3"));
        changes("empty load", 0, x -> x.load(0));
        changes("append", 0, x -> x.append(1, 2, 3, 4, 5));
        changes("errorOffset", 0, OneBeat::errorOffset);
        changes("state", 0, x -> x.state(12));
        changes("player", 0, x -> x.player(1, 9));
        changes("link", 0, x -> x.link(0, 1));
        changes("spread", 0, OneBeat::spread);
        changes("foretold", 0, x -> x.foretold(0));
        changes("safest", 0, OneBeat::safest);
        changes("meanError", 0, OneBeat::meanError);
        changes("checksum", 0, OneBeat::checksum);
        OneBeat x = with(NEAR);
        x.propose(3);
        x.message(0, 0);
        x.proposal(0);
        same("message and proposal", x.undo(), 1);
    }

    private static void howManyCanBeUndone() {
        OneBeat none = new OneBeat();
        same("no change", none.undo(), -1);
        for (int n = 1; n <= 20; n++) {
            OneBeat x = new OneBeat();
            for (int i = 0; i < n; i++) {
                x.pass(1);
            }
            int most = Math.min(n, 8);
            for (int i = 1; i <= most; i++) {
                same("undo " + i + " of " + n, x.undo(), most - i);
                same("time after undo " + i + " of " + n, x.state(1), n - i);
            }
            same("no more of " + n, x.undo(), -1);
            same("no more of " + n + ", again", x.undo(), -1);
            same("time stays", x.state(1), n - most);
        }
    }

    private static void undoneAndMadeAnew() {
        for (int undone = 1; undone <= 8; undone++) {
            for (int anew = 1; anew <= 9; anew++) {
                // 10 ticks one by one, of which 8 can be undone; then longer ones.
                OneBeat x = new OneBeat();
                for (int i = 0; i < 10; i++) {
                    x.pass(1);
                }
                for (int i = 0; i < undone; i++) {
                    x.undo();
                }
                for (int i = 0; i < anew; i++) {
                    x.pass(20);
                }
                String name = undone + " undone, " + anew + " anew";
                same(name, x.state(1), 10 - undone + 20 * anew);
                int left = Math.min(8, 8 - undone + anew);
                for (int i = 1; i <= left; i++) {
                    same(name + ", undo " + i, x.undo(), left - i);
                    int due = i <= anew ? 10 - undone + 20 * (anew - i) : 10 - undone + anew - i;
                    same(name + ", time after undo " + i, x.state(1), due);
                }
                same(name + ", no more", x.undo(), -1);
            }
        }
    }

    private static final int STEPS = 60;

    /** One of a long row of changes that leaves no part of the data as it was. */
    private static void step(OneBeat x, int i) {
        switch (i % 15) {
            case 0:
                x.ask(1 + i % 2);
                break;
            case 6:
                x.ask(1);
                break;
            case 1:
            case 8:
                x.pass(1 + i % 3);
                break;
            case 2:
                x.propose(1 + i);
                break;
            case 3:
            case 5:
            case 11:
                x.pass(2);
                break;
            case 4:
                x.power(2, i % 2 == 0);
                break;
            case 7:
                x.cut(0, 2, i % 2 == 0);
                break;
            case 9:
                x.ask(x.state(2) == 3 ? 0 : 3);
                break;
            case 10:
                x.lead(i % 2 == 0 ? 3 : 0);
                break;
            case 12:
                x.pass(7);
                break;
            case 13:
                x.power(2, true);
                break;
            default:
                if (i == STEPS / 2 - 1) {
                    load(x, "players 5;link 0 1 1 3;link 0 2 2 2;link 0 3 4 1;clock 3 6 0;need 2;patience 6;margin 5;");
                } else {
                    x.pass(50);
                }
                break;
        }
    }

    private static OneBeat first() {
        return with("players 4;link 0 1 2 5;link 0 2 1 1;link 0 3 9 3;clock 1 -7 50;clock 2 4 -30;need 3;patience 12;"
            + "margin delay+up-song/9;");
    }

    private static void madeTwice() {
        OneBeat x = first();
        OneBeat once = first();
        // Of what is rare: another conductor, lost messages, proposals given up, late changes.
        int[] rare = {2, 5, 8, 11};
        boolean[] isSeen = new boolean[rare.length];
        for (int i = 0; i < STEPS; i++) {
            for (int k = 0; k < rare.length; k++) {
                isSeen[k] |= once.state(rare[k]) > 0;
            }
            if (i % 15 == 2 && once.state(6) > 0 && once.proposal(5) == 0) {
                x.pass(12);
                once.pass(12);
            }
            long before = x.checksum();
            step(x, i);
            x.undo();
            same("undone step " + i, x.checksum(), before);
            step(x, i);
            step(once, i);
            same("step " + i + " made twice", x.checksum(), once.checksum());
        }
        for (int k = 0; k < rare.length; k++) {
            holds("there was a state(" + rare[k] + ") of more than 0", isSeen[k]);
        }
    }

    private static void looksLeaveAll() {
        OneBeat x = first();
        OneBeat other = first();
        for (int i = 0; i < STEPS; i++) {
            if (i % 15 == 2 && other.state(6) > 0 && other.proposal(5) == 0) {
                x.pass(12);
                other.pass(12);
            }
            step(x, i);
            step(other, i);
            x.foretold(i % 5);
            x.safest();
            x.meanError();
            same("with looks after step " + i, x.checksum(), other.checksum());
        }
    }

    private static void beforeTheFirstLoad() {
        OneBeat x = new OneBeat();
        same("a load with an error", load(x, "players 2"), SYNTAX);
        same("one player", x.state(0), 1);
        refuses("no second one", x, INDEX, () -> x.player(1, 0));
        same("no expression", x.state(12), 1);
        x.pass(50);
        same("offset and drift", x.player(0, 1), 50);
        same("beat", x.propose(6), 51);
        proposals("need 1, patience 50", x, 6, 51, 100, 0, 1, 1);
        same("change", x.pass(1), 1);
        load(x, "players 2;clock 0 5 5;patience 7;margin 9;");
        x.undo();
        x.propose(7);
        proposals("after a load that was undone", x, 7, 52, 101, 0, 1, 1);
    }

    private static void indexes() {
        for (int n = 1; n <= 8; n++) {
            OneBeat x = with("players 8;");
            load(x, "players " + n + ";");
            int[] outside = {-1, n, n + 1, -n, 8, 64, MIN, MAX};
            for (int p : outside) {
                if (p < 0 || p >= n) {
                    String name = " of player " + p + " among " + n;
                    refuses("player" + name, x, INDEX, () -> x.player(p, 0));
                    refuses("link from" + name, x, INDEX, () -> x.link(p, 0));
                    refuses("link to" + name, x, INDEX, () -> x.link(0, p));
                    refuses("ask" + name, x, INDEX, () -> x.ask(p));
                    refuses("power" + name, x, INDEX, () -> x.power(p, true));
                    refuses("cut from" + name, x, INDEX, () -> x.cut(p, 0, true));
                    refuses("cut to" + name, x, INDEX, () -> x.cut(0, p, true));
                    refuses("lead" + name, x, INDEX, () -> x.lead(p));
                }
            }
        }
        for (int n = 1; n <= 8; n++) {
            OneBeat y = with("players " + n + ";");
            int last = n - 1;
            same("the last one", y.player(last, 0), 1);
            same("the last one", y.link(last, last), 0);
            same("the last one", y.power(last, true), true);
            same("the last one", y.lead(last), 0);
            refuses("the last one, who leads", y, STATE, () -> y.ask(last));
            refuses("the last one, without a link", y, STATE, () -> y.cut(last, last, true));
            same("the first one", y.lead(0), last);
        }
    }

    private static void theFirstOneListed() {
        OneBeat x = with(NEAR);
        refuses("player: no such player, no such what", x, INDEX, () -> x.player(2, 10));
        refuses("player: no such player, no such what", x, INDEX, () -> x.player(-1, -1));
        refuses("player: no such what", x, ARGUMENT, () -> x.player(1, 10));
        refuses("message: none, no such what", x, ELEMENT, () -> x.message(0, 6));
        refuses("message: none, no such what", x, ELEMENT, () -> x.message(-1, -1));
        refuses("proposal: none, no such what", x, ELEMENT, () -> x.proposal(6));
        refuses("proposal: none, no such what", x, ELEMENT, () -> x.proposal(-1));
        refuses("cut: no such player and no such link", x, INDEX, () -> x.cut(0, 2, true));
        refuses("cut: no such player and no such link", x, INDEX, () -> x.cut(2, 2, true));
        x.power(0, false);
        refuses("propose: no such song, and down", x, ARGUMENT, () -> x.propose(100));
        refuses("propose: no such song, and down", x, ARGUMENT, () -> x.propose(-1));
        refuses("propose: down", x, STATE, () -> x.propose(99));
        x.power(0, true);
        x.propose(99);
        refuses("propose: no such song, and one is open", x, ARGUMENT, () -> x.propose(100));
        refuses("propose: one is open", x, STATE, () -> x.propose(0));
        refuses("message: no such what", x, ARGUMENT, () -> x.message(0, 6));
        refuses("proposal: no such what", x, ARGUMENT, () -> x.proposal(6));
    }

    private static void nothingChanges() {
        Class<?>[] due = {ARGUMENT, ARGUMENT, ARGUMENT, ARGUMENT, INDEX, ARGUMENT, INDEX, INDEX, ELEMENT, ARGUMENT, ARGUMENT,
            ARGUMENT, ARGUMENT, STATE, INDEX, STATE, STATE, ARGUMENT, ARGUMENT, INDEX, INDEX, STATE, INDEX};
        Call[] calls = {x -> x.load(-1), x -> x.load(21), x -> x.state(-1), x -> x.state(13), x -> x.player(3, 0),
            x -> x.player(0, 10), x -> x.link(3, 0), x -> x.link(0, -1), x -> x.message(9, 0), x -> x.message(0, 6),
            x -> x.proposal(6), x -> x.foretold(5), x -> x.propose(100), x -> x.propose(1), x -> x.ask(3), x -> x.ask(0),
            x -> x.ask(2), x -> x.pass(0), x -> x.pass(51), x -> x.power(-1, true), x -> x.cut(0, 3, true),
            x -> x.cut(0, 2, true), x -> x.lead(3)};
        for (int i = 0; i < calls.length; i++) {
            OneBeat x = busy();
            OneBeat twin = busy();
            Call call = calls[i];
            String name = "after refused call " + i;
            throwsJust("refused call " + i, due[i], () -> call.on(x));
            same(name + ": error offset", x.errorOffset(), 9);
            same(name + ": buffer", x.append(1, 2, 3, 4, 5), 40);
            for (int left = 4; left >= -1; left--) {
                same(name + ": data", x.checksum(), twin.checksum());
                same(name + ": can be undone", x.undo(), left);
                twin.undo();
            }
        }
    }

    /** 5 changes, an error at offset 9, 20 bytes in the buffer, an open proposal, player 2 down. */
    private static OneBeat busy() {
        OneBeat x = with("players 3;link 0 1 5 4;clock 1 7 9;");
        load(x, "players 3");
        x.ask(1);
        x.power(2, false);
        x.propose(6);
        x.pass(1);
        x.append(0x706c6179, 0x65727320, 0x323b2020, 0x20202020, 0x20202020);
        return x;
    }

    private static void constants() {
        Document.says("The constants: `SYNTAX_ERROR = -2`: Error code of load: the text does not follow the grammar.");
        same("SYNTAX_ERROR", OneBeat.SYNTAX_ERROR, -2);
        same("load", load(new OneBeat(), "players"), -2);
        Document.says("`OUT_OF_RANGE = -3`: Error code of load: a number is not allowed.");
        same("OUT_OF_RANGE", OneBeat.OUT_OF_RANGE, -3);
        same("load", load(new OneBeat(), "players 9;"), -3);
        Document.says("`REPEATED = -4`: Error code of load: a clock or a link is told twice, or a link leads to its "
            + "own player.");
        same("REPEATED", OneBeat.REPEATED, -4);
        same("a clock", load(new OneBeat(), "players 2;clock 1 1 1;clock 1 1 1;"), -4);
        same("a link", load(new OneBeat(), "players 2;link 0 1 1 1;link 0 1 1 1;"), -4);
        same("its own player", load(new OneBeat(), "players 2;link 0 0 1 1;"), -4);
        Document.says("`TOO_DEEP = -5`: Error code of load: parentheses are nested too deeply.");
        same("TOO_DEEP", OneBeat.TOO_DEEP, -5);
        same("load", load(new OneBeat(), "players 2;margin (((((1)))));"), -5);
    }
}
