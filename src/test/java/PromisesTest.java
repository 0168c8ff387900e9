/** Each promise by itself: what it says, its edges, and what it refuses. The answers are worked out by hand. */
public final class PromisesTest extends Check {
    // Two players; a propose is at player 1 after 2 ticks, its vote back after 5, the commit there after 7.
    private static final String PAIR = "players 2;link 0 1 2 3;";
    // Player 0 sends to the others in 1, 2 and 3 ticks, and gets their votes 1 tick later; 2 votes are enough.
    private static final String FAN = "players 4;link 0 1 1 1;link 0 2 2 1;link 0 3 3 1;need 2;";

    private PromisesTest() {
    }

    private static void promise1NewObject() {
        OneBeat x = new OneBeat();
        states("new", x, 1, 0, 0, 0, 0, 0, 0, 0, 0, 1, 0, 0, 1);
        players("new", x, 0, 1, 0, 0, 0, 0, -1, 0, 0, -1, 0);
        Check.same("new: errorOffset", x.errorOffset(), -1);
        Check.same("new: undo", x.undo(), -1);
        Check.refuses("new: load(1) of an empty buffer", x, ARGUMENT, () -> x.load(1));
        Check.same("new: propose", x.propose(9), 1);
        proposals("new: need 1, patience 50", x, 9, 1, 50, 0, 1, 1);
    }

    private static void promise2Append() {
        OneBeat x = new OneBeat();
        Check.same("append", x.append(0x706c6179, 0x65727320, 0x323b6c69, 0x6e6b2030, 0x20312032), 20);
        Check.same("append", x.append(0x20333b20, 0x20202020, 0x20202020, 0x20202020, 0x20202020), 40);
        Check.same("load of the bytes, the most significant first", x.load(23), 2);
        Check.same("link read", x.link(1, 0), 3);
        for (int i = 1; i <= 30; i++) {
            Check.same("append " + i, x.append(0x706c6179, 0x65727320, 0x313b2020, 0x20202020, 0x20202020), 20 * i);
        }
        Check.same("append beyond 600", x.append(-1, -1, -1, -1, -1), -1);
        Check.same("append beyond 600 again", x.append(-1, -1, -1, -1, -1), -1);
        Check.refuses("load(601)", x, ARGUMENT, () -> x.load(601));
        Check.same("load(600) reads the second players", x.load(600), -2);
        Check.same("at", x.errorOffset(), 20);
        Check.same("append after it", x.append(0, 0, 0, 0, -1), 20);
    }

    private static void promise3Load() {
        OneBeat x = Check.with("players 3;clock 1 -7 50;link 0 1 2 3;need 2;patience 9;margin song * 2;");
        states("load", x, 3, 0, 0, 0, 0, 0, 0, 0, 0, 1, 0, 0, 2);
        Check.same("clock", x.player(1, 1), -7);
        x.pass(50);
        Check.same("drift", x.player(1, 1), 50 - 7 + 2);
        Check.same("no clock statement", x.player(2, 1), 50);
        x.propose(40);
        x.power(1, false);
        x.cut(0, 1, true);
        x.lead(2);
        Check.same("second load", Check.load(x, "players 3;link 0 1 2 3;"), 3);
        states("second load", x, 3, 0, 0, 0, 0, 0, 0, 0, 0, 1, 0, 0, 7);
        players("second load", x, 1, 1, 0, 0, 0, 0, -1, 0, 0, -1, 0);
        Check.same("second load: link", x.link(0, 1), 2);
        Check.throwsJust("second load: proposal", ELEMENT, () -> x.proposal(0));
        x.propose(1);
        Check.same("numbers begin anew", x.message(0, 4), 0);
        Check.same("proposals begin anew", x.player(0, 5), 0);
        Check.same("need is all players", x.proposal(5), 0);
        long before = x.checksum();
        Check.same("load with an error", Check.load(x, "players 2;x"), -2);
        Check.same("data after an error", x.checksum(), before);
        Check.same("the buffer is empty after an error", x.append(0, 0, 0, 0, 0), 20);
        Check.refuses("load(-1)", x, ARGUMENT, () -> x.load(-1));
        Check.refuses("load(21)", x, ARGUMENT, () -> x.load(21));
        Check.refuses("load(max)", x, ARGUMENT, () -> x.load(Integer.MAX_VALUE));
        Check.same("the buffer stays when load throws", x.append(0, 0, 0, 0, 0), 40);
        Check.same("an empty text", x.load(0), -2);
        Check.same("the buffer is empty after load(0)", x.append(0, 0, 0, 0, 0), 20);
    }

    private static void promise4ErrorOffset() {
        OneBeat x = new OneBeat();
        Check.load(x, "players 3;need 4;");
        Check.same("offset", x.errorOffset(), 15);
        Check.throwsJust("load(-1)", ARGUMENT, () -> x.load(-1));
        Check.same("a load that throws leaves it", x.errorOffset(), 15);
        Check.load(x, "players 3;");
        Check.same("no error", x.errorOffset(), -1);
        Check.load(x, "");
        Check.same("empty text", x.errorOffset(), 0);
        x.undo();
        Check.same("undo leaves it", x.errorOffset(), 0);
    }

    private static void promise5State() {
        OneBeat x = Check.with(PAIR + "margin song + up * 10 + delay;");
        states("at first", x, 2, 0, 0, 0, 0, 0, 0, 0, 0, 1, 0, 0, 24);
        x.propose(5);
        states("proposed", x, 2, 0, 0, 1, 1, 0, 1, 0, 0, 1, 0, 0, 24);
        x.pass(30);
        states("changed", x, 2, 30, 0, 0, 3, 0, 1, 1, 0, 1, 2, 0, 24);
        x.cut(0, 1, true);
        x.propose(6);
        states("lost", x, 2, 30, 0, 0, 4, 1, 2, 1, 0, 1, 2, 0, 24);
        x.pass(50);
        states("given up", x, 2, 80, 0, 0, 5, 2, 2, 1, 1, 1, 2, 0, 24);
        x.cut(1, 0, true);
        x.power(1, false);
        x.lead(1);
        states("the rest", x, 2, 80, 1, 0, 5, 2, 2, 1, 1, 1, 2, 0, 11);
        x.power(0, false);
        states("nobody up", x, 2, 80, 1, 0, 5, 2, 2, 1, 1, 0, 2, 0, 1);
        Check.refuses("state(-1)", x, ARGUMENT, () -> x.state(-1));
        Check.refuses("state(13)", x, ARGUMENT, () -> x.state(13));
        Check.refuses("state(min)", x, ARGUMENT, () -> x.state(Integer.MIN_VALUE));
        songsAndLateOnes();
        margins();
    }

    private static void songsAndLateOnes() {
        OneBeat x = Check.with(FAN + "margin 1;");
        x.propose(8);
        x.pass(2);
        states("one has changed late", x, 4, 2, 0, 5, 8, 0, 1, 1, 0, 2, 1, 1, 1);
        x.power(0, false);
        Check.same("songs of those who are up", x.state(9), 1);
    }

    private static void margins() {
        String[] sums = {"2-3-4", "20-3-4", "100/7/2", "7/0", "5+7/(1-1)", "(1-9)/2+9", "9999*9999*9999/9999",
            "0-9999*9999/2+9999*100", "9999*9999-9999*9999+3", "9999*100+9999+9999-9999*100", "1+2*3", "(1+2)*3",
            "players", "delay", "up", "song", "9999", "0", "5*(2+(3*(4-(1))))", "0-9999*9999*9999/9999+101"};
        int[] due = {1, 13, 7, 1, 5, 5, 100, 1000, 3, 100, 7, 9, 3, 6, 3, 1, 1000, 1, 55, 1};
        for (int i = 0; i < sums.length; i++) {
            OneBeat x = Check.with("players 3;link 0 2 4 6;margin " + sums[i] + ";");
            Check.same("margin " + sums[i], x.state(12), due[i]);
        }
        OneBeat x = Check.with("players 3;margin 20 * (song + 4);");
        Check.same("margin of the first load", x.state(12), 100);
        Check.same("a margin with an error", Check.load(x, "players 3;margin 7 * (song + 4;"), -2);
        Check.same("margin of the first load", x.state(12), 100);
        Check.load(x, "players 3;margin 7;");
        Check.same("margin of the second load", x.state(12), 7);
        Check.load(x, "players 3;link 0 2 4 6;link 1 2 5 1;");
        Check.same("usual margin", x.state(12), 13);
        x.cut(2, 0, true);
        Check.same("usual margin of the open links", x.state(12), 11);
        x.cut(1, 2, true);
        x.cut(0, 2, true);
        Check.same("usual margin of one open link", x.state(12), 3);
        x.cut(2, 1, true);
        Check.same("usual margin without open links", x.state(12), 1);
    }

    private static void promise6Player() {
        OneBeat x = Check.with("players 2;link 0 1 2 1;clock 0 10 -50;clock 1 5 49;margin 1;");
        x.ask(1);
        x.pass(20);
        // The ask leaves at 5, is told 11 at 1, and the tell comes at 3, when the clock shows 8: 11 + 3/2 - 8.
        players("asked", x, 1, 1, 25, 4, 0, 0, -1, 0, 0, -1, 0);
        players("conductor", x, 0, 1, 29, 0, 0, 0, -1, 0, 0, -1, 0);
        x.pass(1);
        Check.same("drift of 49 by 21 ticks", x.player(1, 1), 27);
        Check.same("estimate off", x.player(1, 9), 1);
        x.propose(3);
        players("proposed", x, 0, 1, 30, 0, 0, 1, 0, 0, 0, -1, 0);
        x.pass(2);
        players("got it", x, 1, 1, 29, 4, 0, 1, 0, 0, 0, -1, 1);
        x.pass(1);
        players("sender changes late", x, 0, 1, 33, 0, 3, 0, -1, 1, 1, 24, 0);
        x.pass(2);
        players("changes late", x, 1, 1, 32, 4, 3, 0, -1, 1, 1, 26, 1);
        x.power(1, false);
        Check.same("down", x.player(1, 0), 0);
        Check.refuses("player(2, 0)", x, INDEX, () -> x.player(2, 0));
        Check.refuses("player(-1, 0)", x, INDEX, () -> x.player(-1, 0));
        Check.refuses("player(-1, 99): the first one counts", x, INDEX, () -> x.player(-1, 99));
        Check.refuses("player(0, 10)", x, ARGUMENT, () -> x.player(0, 10));
        Check.refuses("player(0, -1)", x, ARGUMENT, () -> x.player(0, -1));
    }

    private static void promise7Link() {
        OneBeat x = Check.with("players 3;link 2 0 9 1;");
        Check.same("there", x.link(2, 0), 9);
        Check.same("back", x.link(0, 2), 1);
        Check.same("none", x.link(0, 1), 0);
        Check.same("to itself", x.link(1, 1), 0);
        x.cut(2, 0, true);
        Check.same("cut", x.link(2, 0), -9);
        Check.same("back stays", x.link(0, 2), 1);
        Check.refuses("link(3, 0)", x, INDEX, () -> x.link(3, 0));
        Check.refuses("link(0, 3)", x, INDEX, () -> x.link(0, 3));
        Check.refuses("link(-1, 0)", x, INDEX, () -> x.link(-1, 0));
        Check.refuses("link(0, -1)", x, INDEX, () -> x.link(0, Integer.MIN_VALUE));
    }

    private static void promise8Message() {
        OneBeat x = Check.with("players 3;link 0 1 5 9;link 0 2 3 1;need 2;");
        x.ask(1);
        x.ask(2);
        x.propose(7);
        messages("by arrival", x, new int[] {0, 2, 0, 1, 1, -1}, new int[] {2, 0, 2, 3, 3, 0},
            new int[] {2, 0, 1, 5, 2, 0}, new int[] {0, 1, 0, 9, 0, -1});
        x.pass(1);
        messages("of one time by number", x, new int[] {2, 0, 2, 3, 3, 0}, new int[] {1, 0, 2, 4, 4, -1},
            new int[] {2, 0, 1, 5, 2, 0}, new int[] {0, 1, 0, 9, 0, -1});
        x.pass(2);
        messages("vote", x, new int[] {1, 0, 2, 4, 4, -1}, new int[] {3, 2, 0, 4, 5, 0},
            new int[] {2, 0, 1, 5, 2, 0}, new int[] {0, 1, 0, 9, 0, -1});
        x.pass(1);
        messages("commits", x, new int[] {2, 0, 1, 5, 2, 0}, new int[] {4, 0, 2, 7, 7, 0},
            new int[] {0, 1, 0, 9, 0, -1}, new int[] {4, 0, 1, 9, 6, 0});
        Check.refuses("message(4, 0)", x, ELEMENT, () -> x.message(4, 0));
        Check.refuses("message(-1, 0)", x, ELEMENT, () -> x.message(-1, 0));
        Check.refuses("message(4, 6): the first one counts", x, ELEMENT, () -> x.message(4, 6));
        Check.refuses("message(0, 6)", x, ARGUMENT, () -> x.message(0, 6));
        Check.refuses("message(0, -1)", x, ARGUMENT, () -> x.message(0, -1));
        OneBeat y = Check.with("players 2;link 0 1 9 9;patience 1;");
        y.propose(1);
        y.pass(1);
        messages("give up", y, new int[] {2, 0, 1, 9, 0, 0}, new int[] {5, 0, 1, 10, 1, 0});
    }

    private static void promise9Proposal() {
        OneBeat x = Check.with(PAIR + "patience 20;clock 0 100 0;");
        Check.refuses("no proposal", x, ELEMENT, () -> x.proposal(0));
        Check.refuses("no proposal, and what", x, ELEMENT, () -> x.proposal(6));
        x.pass(1);
        x.propose(99);
        proposals("open", x, 99, 108, 21, 0, 1, 0);
        x.pass(4);
        proposals("still open", x, 99, 108, 21, 0, 1, 0);
        x.pass(1);
        proposals("committed", x, 99, 108, 21, 0, 2, 1);
        x.lead(1);
        x.propose(0);
        proposals("the latest one", x, 0, 13, 26, 1, 1, 0);
        x.power(0, false);
        x.pass(20);
        proposals("given up", x, 0, 13, 26, 1, 1, 2);
        Check.refuses("proposal(-1)", x, ARGUMENT, () -> x.proposal(-1));
        Check.refuses("proposal(6)", x, ARGUMENT, () -> x.proposal(6));
    }

    private static void promise10Spread() {
        OneBeat x = Check.with("players 3;link 0 1 1 1;link 0 2 4 1;need 2;margin 1;");
        Check.same("no proposal", x.spread(), -1);
        x.propose(1);
        Check.same("nobody changed", x.spread(), -1);
        x.pass(2);
        Check.same("the sender changed", x.spread(), 0);
        x.pass(1);
        Check.same("two changed", x.spread(), 1);
        x.pass(3);
        Check.same("three changed", x.spread(), 4);
        x.propose(2);
        Check.same("nobody changed by the latest one", x.spread(), -1);
        OneBeat y = Check.with("players 2;link 0 1 9 9;need 1;patience 3;margin 1;");
        y.propose(1);
        y.cut(0, 1, true);
        y.pass(4);
        y.propose(2);
        y.pass(10);
        Check.same("one by the latest, one by the older", y.state(10), 3);
        Check.same("a change by an older one does not count", y.spread(), 0);
    }

    private static void promise11Foretold() {
        OneBeat x = Check.with(FAN + "margin 3;");
        foretells("nothing to come", x, 0, -1, -1, 1, 0);
        x.propose(5);
        long before = x.checksum();
        // Committed at 2; the commits are there at 3, 4 and 5, so players 2 and 3 are late by 1 and 2.
        foretells("proposed", x, 5, 1, 2, 1, 2);
        Check.same("foretold changes nothing", x.checksum(), before);
        x.pass(3);
        foretells("late ones that come", x, 2, 1, 2, 1, 2);
        x.pass(1);
        Check.same("one was late", x.state(11), 1);
        foretells("late ones that come yet", x, 1, 1, 2, 1, 1);
        x.pass(1);
        foretells("all is done", x, 0, 1, 2, 1, 0);
        Check.refuses("foretold(-1)", x, ARGUMENT, () -> x.foretold(-1));
        Check.refuses("foretold(5)", x, ARGUMENT, () -> x.foretold(5));
        OneBeat y = Check.with("players 1;clock 0 0 -50;margin 1000;");
        y.propose(3);
        foretells("at most 400 ticks", y, 400, 1, -1, 1, 0);
        OneBeat z = Check.with("players 2;need 2;patience 200;");
        z.propose(3);
        foretells("an open proposal", z, 200, 2, -1, 1, 0);
        OneBeat w = Check.with("players 2;link 0 1 7 8;");
        w.ask(1);
        foretells("messages on their way", w, 15, -1, -1, 1, 0);
        w.power(0, false);
        foretells("lost at a player who is down", w, 8, -1, -1, 1, 0);
    }

    private static void promise12Safest() {
        Check.same("alone", new OneBeat().safest(), 1);
        OneBeat x = Check.with(FAN + "margin 900;");
        long before = x.checksum();
        // The commit to player 3 is there at 5.
        Check.same("fan", x.safest(), 5);
        Check.same("safest changes nothing", x.checksum(), before);
        x.propose(1);
        Check.same("a proposal is open", x.safest(), -1);
        x.pass(2);
        Check.same("an older plan for late beats is no matter", x.safest(), 5);
        x.power(0, false);
        Check.same("the conductor is down", x.safest(), -1);
        Check.same("never committed", Check.with("players 2;patience 9;").safest(), -1);
        Check.same("60", Check.with("players 2;link 0 1 1 1;clock 1 57 0;need 1;").safest(), 58);
        Check.same("60", Check.with("players 2;link 0 1 1 1;clock 1 59 0;need 1;").safest(), 60);
        Check.same("61", Check.with("players 2;link 0 1 1 1;clock 1 60 0;need 1;").safest(), -1);
        OneBeat y = Check.with("players 2;link 0 1 9 9;need 1;margin 2;");
        y.propose(4);
        y.cut(0, 1, true);
        Check.same("a change by an older plan is late", y.safest(), -1);
        OneBeat z = Check.with("players 2;link 0 1 1 9;need 2;patience 9;");
        Check.same("the vote comes too late", z.safest(), -1);
        OneBeat v = Check.with("players 2;link 0 1 1 9;need 2;patience 10;");
        Check.same("the vote comes just in time", v.safest(), 11);
    }

    private static void promise13MeanError() {
        OneBeat x = Check.with("players 4;clock 1 -5 0;clock 2 8 0;link 0 2 1 1;");
        Check.sameDouble("of all", x.meanError(), 13.0 / 4.0);
        x.power(3, false);
        Check.sameDouble("of those who are up", x.meanError(), 13.0 / 3.0);
        x.lead(1);
        Check.sameDouble("by the conductor's clock", x.meanError(), 18.0 / 3.0);
        x.lead(0);
        x.ask(2);
        x.pass(2);
        Check.sameDouble("with guesses", x.meanError(), 5.0 / 3.0);
        x.power(0, false);
        Check.sameDouble("the conductor is down", x.meanError(), 2.5);
        x.power(1, false);
        x.power(2, false);
        Check.sameDouble("nobody is up", x.meanError(), 0.0);
    }

    private static void promise14Propose() {
        OneBeat x = Check.with(FAN + "margin song + 4;clock 0 -20 0;");
        Check.refuses("propose(-1)", x, ARGUMENT, () -> x.propose(-1));
        Check.refuses("propose(100)", x, ARGUMENT, () -> x.propose(100));
        Check.same("beat", x.propose(99), 83);
        proposals("proposed", x, 99, 83, 50, 0, 1, 0);
        Check.refuses("one is open", x, STATE, () -> x.propose(1));
        Check.refuses("one is open, and the song is wrong", x, ARGUMENT, () -> x.propose(100));
        messages("to all others", x, new int[] {2, 0, 1, 1, 0, 0}, new int[] {2, 0, 2, 2, 1, 0},
            new int[] {2, 0, 3, 3, 2, 0});
        x.pass(2);
        Check.same("committed by two votes", x.proposal(5), 1);
        Check.same("the sender's plan", x.player(0, 4), 2);
        x.pass(1);
        Check.same("the third vote does not count", x.proposal(4), 2);
        Check.same("the next beat", x.propose(0), -13);
        Check.same("the new plan is in place of a firm one", x.player(0, 4), 1);
        Check.same("its number", x.player(0, 5), 1);
        x.power(0, false);
        Check.refuses("the conductor is down", x, STATE, () -> x.propose(0));
        Check.refuses("the conductor is down, and the song is wrong", x, ARGUMENT, () -> x.propose(-1));
        oneVote();
        olderProposals();
    }

    private static void oneVote() {
        OneBeat x = Check.with("players 3;link 0 1 2 2;link 2 0 2 2;need 1;");
        x.propose(6);
        proposals("at once", x, 6, 5, 50, 0, 1, 1);
        messages("proposes ahead of commits", x, new int[] {2, 0, 1, 2, 0, 0}, new int[] {2, 0, 2, 2, 1, 0},
            new int[] {4, 0, 1, 2, 2, 0}, new int[] {4, 0, 2, 2, 3, 0});
        x.pass(2);
        Check.same("votes in any case", x.state(3), 2);
        Check.same("firm", x.player(1, 4), 2);
        x.pass(2);
        Check.same("votes too late", x.proposal(4), 1);
    }

    private static void olderProposals() {
        // Player 2 hears of proposal 0 at 9, and of proposal 1 by player 1 at 2.
        OneBeat x = Check.with("players 3;link 0 2 9 9;link 1 2 1 1;need 1;margin 500;");
        x.propose(10);
        x.pass(1);
        x.lead(1);
        x.propose(20);
        x.pass(1);
        Check.same("a newer plan", x.player(2, 5), 1);
        Check.same("a newer plan, firm", x.player(2, 4), 2);
        x.pass(7);
        Check.same("an older propose and commit change nothing", x.player(2, 5), 1);
        Check.same("an older propose is voted for", x.message(0, 0), 3);
        Check.same("the vote is for the older one", x.message(0, 5), 0);
        Check.same("the vote goes to who sent it", x.message(0, 2), 0);
        x.lead(2);
        x.propose(30);
        Check.same("the plan of the next proposal", x.player(2, 5), 2);
        x.pass(1);
        Check.same("a propose in place of a firm plan", x.player(1, 5), 2);
    }

    private static void promise15Ask() {
        OneBeat x = Check.with("players 3;link 0 1 2 1;clock 1 -100 0;");
        Check.same("on its way", x.ask(1), true);
        Check.same("no link", x.ask(2), false);
        Check.same("one is lost", x.state(5), 1);
        x.pass(1);
        Check.same("again, remembered by itself", x.ask(1), true);
        x.pass(2);
        Check.same("time told 1, half of 3, at -97", x.player(1, 2), 1 + 1 + 97);
        x.pass(1);
        Check.same("time told 2, half of 3, at -96", x.player(1, 2), 2 + 1 + 96);
        Check.refuses("the conductor", x, STATE, () -> x.ask(0));
        x.power(2, false);
        Check.refuses("down", x, STATE, () -> x.ask(2));
        Check.refuses("ask(3)", x, INDEX, () -> x.ask(3));
        Check.refuses("ask(-1)", x, INDEX, () -> x.ask(-1));
        x.cut(1, 0, true);
        Check.same("cut", x.ask(1), false);
        x.cut(1, 0, false);
        x.ask(1);
        x.lead(1);
        Check.same("guesses are gone", x.player(1, 2), 0);
        x.pass(3);
        Check.same("asked before it led", x.player(1, 2), 0);
        OneBeat y = Check.with("players 3;link 0 1 2 1;link 0 2 1 1;clock 0 50 0;clock 2 -10 0;");
        y.ask(1);
        y.lead(2);
        y.pass(3);
        // Asked at 0, told 51 by player 0 at 1, heard at 3.
        Check.same("who was asked tells, conductor or not", y.player(1, 2), 51 + 1 - 3);
        OneBeat z = Check.with("players 2;link 0 1 5 5;");
        z.ask(1);
        z.cut(1, 0, true);
        z.pass(5);
        Check.same("a cut does not affect what is on its way", z.message(0, 0), 1);
        z.power(1, false);
        z.pass(5);
        Check.same("lost at who is down", z.state(5), 1);
    }

    private static void promise16Pass() {
        OneBeat x = Check.with(PAIR);
        x.propose(5);
        Check.same("none yet", x.pass(6), 0);
        Check.same("both", x.pass(1), 2);
        Check.same("time", x.state(1), 7);
        Check.same("none more", x.pass(50), 0);
        Check.same("time", x.state(1), 57);
        Check.refuses("pass(0)", x, ARGUMENT, () -> x.pass(0));
        Check.refuses("pass(51)", x, ARGUMENT, () -> x.pass(51));
        Check.refuses("pass(-1)", x, ARGUMENT, () -> x.pass(-1));
        deadlines();
        OneBeat y = Check.with(FAN + "margin 4;");
        y.propose(9);
        Check.same("three by 4", y.pass(4), 3);
        Check.same("none late", y.state(11), 0);
        Check.same("the last one", y.pass(1), 1);
        Check.same("late", y.player(3, 7), 1);
        Check.same("at", y.player(3, 8), 5);
    }

    private static void deadlines() {
        OneBeat x = Check.with(PAIR + "patience 5;");
        x.propose(5);
        x.pass(5);
        Check.same("a vote at the deadline counts", x.proposal(5), 1);
        OneBeat y = Check.with(PAIR + "patience 4;");
        y.propose(5);
        y.pass(3);
        Check.same("one tick ahead of the deadline", y.proposal(5), 0);
        y.pass(1);
        Check.same("at the deadline", y.proposal(5), 2);
        Check.same("the sender's plan is gone", y.player(0, 4), 0);
        Check.same("the other one's plan is not", y.player(1, 4), 1);
        y.pass(1);
        Check.same("a vote after the deadline does not count", y.proposal(4), 1);
        y.pass(1);
        Check.same("given up there, too", y.player(1, 4), 0);
        OneBeat z = Check.with(PAIR + "patience 4;");
        z.propose(5);
        z.power(0, false);
        z.pass(4);
        Check.same("given up without its sender", z.state(8), 1);
        Check.same("who sends nothing then", z.state(4), 2);
        // Proposal 0 is given up at 12, and player 1 hears of that at 21, when proposal 1 is its plan.
        OneBeat w = Check.with("players 3;link 0 1 9 9;link 1 2 1 1;patience 12;");
        w.propose(5);
        w.pass(12);
        w.lead(2);
        w.propose(6);
        w.pass(9);
        Check.same("no give up is left", w.state(3), 0);
        Check.same("a give up of an older one", w.player(1, 5), 1);
        Check.same("its plan", w.player(1, 4), 1);
        w.pass(4);
        Check.same("its own give up", w.player(1, 4), 0);
        firmOnesStay();
    }

    private static void firmOnesStay() {
        // Proposal 1 is committed, its firm plan waits; the give up of proposal 0 comes after it.
        OneBeat x = Check.with("players 3;link 0 1 9 9;link 1 2 1 1;patience 3;need 2;margin 300;");
        x.propose(5);
        x.pass(3);
        Check.same("given up", x.state(8), 1);
        x.lead(2);
        x.propose(6);
        x.pass(3);
        Check.same("firm", x.player(1, 4), 2);
        x.pass(10);
        Check.same("still firm", x.player(1, 4), 2);
        Check.same("for proposal 1", x.player(1, 5), 1);
    }

    private static void promise17Power() {
        OneBeat x = Check.with("players 2;link 0 1 1 1;clock 1 5 0;need 1;margin 2;");
        x.ask(1);
        x.pass(2);
        x.propose(3);
        x.pass(2);
        Check.same("plays", x.player(1, 3), 3);
        x.propose(4);
        x.pass(1);
        Check.same("firm plan", x.player(1, 4), 2);
        Check.same("was up", x.power(1, false), true);
        players("down", x, 1, 0, 10, -5, 3, 0, -1, 1, 0, 4, 0);
        Check.same("was down", x.power(1, false), false);
        x.pass(5);
        Check.same("does not change", x.player(1, 6), 1);
        Check.same("was down", x.power(1, true), false);
        Check.same("was up", x.power(1, true), true);
        players("up again", x, 1, 1, 15, -5, 3, 0, -1, 1, 0, 4, 0);
        x.propose(5);
        x.power(1, true);
        x.power(0, true);
        Check.same("who stays up keeps the plan", x.player(0, 4), 2);
        Check.refuses("power(2, true)", x, INDEX, () -> x.power(2, true));
        Check.refuses("power(-1, false)", x, INDEX, () -> x.power(-1, false));
        OneBeat y = Check.with(PAIR);
        y.propose(1);
        y.power(0, false);
        y.power(0, true);
        Check.same("the sender has no plan", y.player(0, 4), 0);
        y.pass(5);
        Check.same("but gets a firm one", y.player(0, 4), 2);
        OneBeat z = Check.with(PAIR);
        z.propose(1);
        z.power(0, false);
        z.pass(5);
        Check.same("a vote at who is down is lost", z.state(5), 1);
        Check.same("and does not count", z.proposal(4), 1);
    }

    private static void promise18Cut() {
        OneBeat x = Check.with(PAIR + "need 1;");
        Check.same("was open", x.cut(0, 1, true), false);
        Check.same("was cut", x.cut(0, 1, true), true);
        Check.same("one direction", x.link(1, 0), 3);
        x.propose(1);
        Check.same("propose and commit are lost", x.state(5), 2);
        Check.same("numbers of lost ones count", x.state(4), 2);
        Check.same("was cut", x.cut(0, 1, false), true);
        Check.same("was open", x.cut(0, 1, false), false);
        Check.same("open", x.link(0, 1), 2);
        x.propose(1);
        Check.same("its number", x.message(0, 4), 2);
        Check.refuses("cut(0, 0)", x, STATE, () -> x.cut(0, 0, true));
        Check.refuses("cut(2, 0)", x, INDEX, () -> x.cut(2, 0, true));
        Check.refuses("cut(0, 2)", x, INDEX, () -> x.cut(0, 2, true));
        Check.refuses("cut(0, -1)", x, INDEX, () -> x.cut(0, -1, false));
        OneBeat y = Check.with("players 3;link 0 1 2 3;");
        Check.refuses("no link", y, STATE, () -> y.cut(0, 2, true));
        Check.refuses("no link", y, STATE, () -> y.cut(2, 1, false));
    }

    private static void promise19Lead() {
        OneBeat x = Check.with("players 3;link 0 1 1 1;link 0 2 1 1;clock 1 10 0;clock 2 20 0;");
        x.ask(1);
        x.ask(2);
        x.pass(2);
        Check.same("guess", x.player(1, 2), -10);
        x.propose(1);
        Check.same("previous", x.lead(1), 0);
        Check.same("conductor", x.state(2), 1);
        Check.same("guess gone", x.player(1, 2), 0);
        Check.same("guess gone", x.player(2, 2), 0);
        Check.same("error by the new one", x.player(2, 9), 10);
        Check.same("the sender stays", x.proposal(3), 0);
        Check.refuses("the proposal is open yet", x, STATE, () -> x.propose(2));
        x.pass(2);
        Check.same("committed for its sender", x.player(0, 4), 2);
        Check.same("previous", x.lead(1), 1);
        x.power(2, false);
        Check.same("who is down can lead", x.lead(2), 1);
        Check.refuses("but cannot propose", x, STATE, () -> x.propose(2));
        Check.refuses("lead(3)", x, INDEX, () -> x.lead(3));
        Check.refuses("lead(-1)", x, INDEX, () -> x.lead(-1));
        OneBeat y = Check.with("players 2;link 0 1 1 1;clock 1 10 0;");
        y.ask(1);
        y.pass(2);
        y.lead(0);
        Check.same("guesses are gone though nobody else leads", y.player(1, 2), 0);
    }

    private static void promise20Undo() {
        OneBeat x = new OneBeat();
        Check.same("nothing to undo", x.undo(), -1);
        long[] before = new long[12];
        for (int i = 0; i < 12; i++) {
            before[i] = x.checksum();
            change(x, i);
        }
        for (int left = 7; left >= 0; left--) {
            Check.same("undo", x.undo(), left);
            Check.same("as before change " + (left + 4), x.checksum(), before[left + 4]);
        }
        Check.same("older ones are final", x.undo(), -1);
        Check.same("and nothing changes", x.checksum(), before[4]);
        for (int i = 4; i < 8; i++) {
            change(x, i);
        }
        Check.same("after four more", x.undo(), 3);
        Check.same("as before the fourth", x.checksum(), before[7]);
        noChanges(x);
        OneBeat y = new OneBeat();
        y.append(1, 2, 3, 4, 5);
        y.pass(1);
        y.undo();
        Check.same("the buffer stays", y.append(1, 2, 3, 4, 5), 40);
        y.pass(1);
        for (int i = 0; i < 9; i++) {
            y.power(0, true);
        }
        Check.same("a call that changes nothing is a change", y.undo(), 7);
        Check.same("the pass is final", y.state(1), 1);
    }

    private static void noChanges(OneBeat x) {
        long sum = x.checksum();
        Check.throwsJust("pass(0)", ARGUMENT, () -> x.pass(0));
        Check.throwsJust("propose(-1)", ARGUMENT, () -> x.propose(-1));
        Check.throwsJust("ask(9)", INDEX, () -> x.ask(9));
        Check.throwsJust("power(9)", INDEX, () -> x.power(9, true));
        Check.throwsJust("cut(0, 0)", STATE, () -> x.cut(0, 0, true));
        Check.throwsJust("lead(9)", INDEX, () -> x.lead(9));
        Check.throwsJust("load(-1)", ARGUMENT, () -> x.load(-1));
        Check.load(x, "players 9;");
        x.safest();
        x.foretold(0);
        Check.same("all of that changes nothing", x.checksum(), sum);
        Check.same("and can not be undone", x.undo(), 2);
    }

    /** One change of each kind, each of which shows in the checksum. */
    private static void change(OneBeat x, int i) {
        switch (i) {
            case 0:
            case 9:
                Check.load(x, "players 3;link 0 1 1 2;link 1 2 2 2;clock 2 " + (i + 1) + " 0;need 1;");
                break;
            case 1:
            case 5:
                x.ask(1);
                break;
            case 2:
            case 6:
                x.pass(4);
                break;
            case 3:
            case 10:
                x.propose(3);
                break;
            case 4:
                x.power(2, false);
                break;
            case 7:
                x.lead(1);
                break;
            case 8:
                x.cut(0, 1, true);
                break;
            default:
                x.pass(50);
                break;
        }
    }

    private static long sumOf(OneBeat x) {
        long sum = 0;
        for (int what = 0; what <= 12; what++) {
            sum = 31 * sum + x.state(what);
        }
        for (int p = 0; p < x.state(0); p++) {
            for (int what = 0; what <= 9; what++) {
                sum = 31 * sum + x.player(p, what);
            }
        }
        for (int k = 0; k < x.state(3); k++) {
            for (int what = 0; what <= 5; what++) {
                sum = 31 * sum + x.message(k, what);
            }
        }
        if (x.state(6) > 0) {
            for (int what = 0; what <= 5; what++) {
                sum = 31 * sum + x.proposal(what);
            }
            sum = 31 * sum + x.spread();
        }
        return sum;
    }

    private static void promise21Checksum() {
        OneBeat x = new OneBeat();
        Check.same("new", x.checksum(), sumOf(x));
        Check.load(x, FAN);
        Check.same("loaded", x.checksum(), sumOf(x));
        for (int i = 0; i < 12; i++) {
            if (i % 4 == 0) {
                x.propose(i);
                x.ask(3);
            }
            x.pass(1 + i % 3);
            Check.same("after pass " + i, x.checksum(), sumOf(x));
        }
        Check.same("twice the same", x.checksum(), x.checksum());
    }

    public static void main(String[] args) {
        promise1NewObject();
        promise2Append();
        promise3Load();
        promise4ErrorOffset();
        promise5State();
        promise6Player();
        promise7Link();
        promise8Message();
        promise9Proposal();
        promise10Spread();
        promise11Foretold();
        promise12Safest();
        promise13MeanError();
        promise14Propose();
        promise15Ask();
        promise16Pass();
        promise17Power();
        promise18Cut();
        promise19Lead();
        promise20Undo();
        promise21Checksum();
        Check.end("PromisesTest");
    }
}
