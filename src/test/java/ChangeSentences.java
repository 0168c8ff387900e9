/** The sentences about a change: proposals, plans, votes, commits, give ups and the order within a tick. */
final class ChangeSentences extends Check {
    // A propose is at player 1 after 2 ticks, its vote back after 5, the commit there after 7.
    private static final String PAIR = "players 2;link 0 1 2 3;";
    // Each message takes a tick: a vote is back after 2 ticks, the commit there after 3.
    private static final String NEAR = "players 2;link 0 1 1 1;";

    private ChangeSentences() {
    }

    static void run() {
        Document.says("A change:");
        whoCanPropose();
        whatAProposalHas();
        whatTheConductorDoes();
        theSender();
        getsAPropose();
        getsAProposeOlderPlans();
        aVoteCounts();
        asManyVotesAsNeeded();
        commitIsSent();
        getsACommit();
        theDeadline();
        theSendersPlanAtTheDeadline();
        getsAGiveUp();
        whoChanges();
        aTick();
    }

    private static void whoCanPropose() {
        Document.says("A conductor who is up can propose a song, if no proposal is open:");
        OneBeat x = with(PAIR);
        x.power(0, false);
        refuses("down", x, STATE, () -> x.propose(1));
        x.power(0, true);
        same("up", x.propose(1), 7);
        refuses("one is open", x, STATE, () -> x.propose(2));
        x.pass(4);
        refuses("one is open still", x, STATE, () -> x.propose(2));
        x.pass(1);
        same("it is committed", x.propose(2), 5 + 7);
        refuses("the next one is open", x, STATE, () -> x.propose(3));
        OneBeat y = with(PAIR + "patience 4;");
        y.propose(1);
        y.pass(3);
        refuses("one is open still", y, STATE, () -> y.propose(2));
        y.pass(1);
        same("it is given up", y.propose(2), 4 + 7);
        OneBeat z = with(PAIR);
        z.power(1, false);
        z.lead(1);
        refuses("the new conductor is down", z, STATE, () -> z.propose(1));
        z.lead(0);
        same("the old one is up", z.propose(1), 7);
    }

    private static void whatAProposalHas() {
        Document.says("the proposal has a number (0 for the first one since the latest successful load, then 1, and "
            + "so on), the song, a beat, which is what the conductor's clock shows then plus the margin, and a "
            + "deadline, which is the time plus the patience.");
        OneBeat x = with("players 2;clock 0 100 50;clock 1 -7 0;need 1;margin 10;patience 30;");
        x.pass(20);
        same("beat", x.propose(7), 20 + 100 + 1 + 10);
        proposals("the first one", x, 7, 131, 50, 0, 1, 1);
        same("number", x.player(0, 5), 0);
        x.propose(8);
        same("number of the second one", x.player(0, 5), 1);
        load(x, "players 2");
        x.pass(1);
        x.propose(99);
        proposals("after a load with an error", x, 99, 132, 51, 0, 1, 1);
        same("number after it", x.player(0, 5), 2);
        x.lead(1);
        same("beat of the new conductor", x.propose(0), 21 - 7 + 10);
        proposals("of the new conductor", x, 0, 24, 51, 1, 1, 1);
        same("number", x.player(1, 5), 3);
        load(x, "players 2;");
        same("proposals after a load", x.state(6), 0);
        x.propose(3);
        proposals("after a load", x, 3, 1, 50, 0, 1, 0);
        same("number after a load", x.player(0, 5), 0);
    }

    private static void whatTheConductorDoes() {
        Document.says("The conductor gets a plan for it, votes itself, and sends a propose to all others (ahead of a "
            + "commit, if one vote is enough).");
        OneBeat x = with("players 3;link 1 0 4 1;link 1 2 4 1;need 2;");
        x.lead(1);
        x.propose(5);
        players("the conductor", x, 1, 1, 0, 0, 0, 1, 0);
        players("another one", x, 0, 1, 0, 0, 0, 0, -1);
        same("votes", x.proposal(4), 1);
        messages("two are needed", x, row(2, 1, 0, 4, 0, 0), row(2, 1, 2, 4, 1, 0));
        OneBeat y = with("players 3;link 1 0 4 1;link 1 2 4 1;need 1;");
        y.lead(1);
        y.propose(5);
        players("the conductor, by one vote", y, 1, 1, 0, 0, 0, 2, 0);
        same("votes", y.proposal(4), 1);
        messages("one is enough", y, row(2, 1, 0, 4, 0, 0), row(2, 1, 2, 4, 1, 0), row(4, 1, 0, 4, 2, 0),
            row(4, 1, 2, 4, 3, 0));
        OneBeat z = with("players 1;");
        z.propose(5);
        states("alone, to nobody", z, 1, 0, 0, 0, 0, 0, 1, 1);
        OneBeat w = with(NEAR + "need 1;margin 300;");
        w.propose(1);
        same("firm", w.player(0, 4), 2);
        load(w, NEAR + "margin 300;");
        w.propose(1);
        w.pass(2);
        same("firm by two votes", w.player(0, 4), 2);
        w.propose(2);
        players("in place of a firm plan", w, 0, 1, 2, 0, 0, 1, 1);
    }

    private static void theSender() {
        Document.says("The proposal is open; its sender is the player who proposed it.");
        OneBeat x = with("players 3;link 0 1 2 3;link 2 1 2 3;need 2;");
        x.propose(5);
        proposals("open", x, 5, 7, 50, 0, 1, 0);
        x.lead(2);
        same("its sender does not lead any more", x.proposal(3), 0);
        x.pass(5);
        proposals("the vote still comes to the sender", x, 5, 7, 50, 0, 2, 1);
        messages("who commits", x, row(4, 0, 1, 7, 3, 0));
        same("who gets the firm plan", x.player(0, 4), 2);
        same("not the conductor", x.player(2, 4), 0);
        x.propose(6);
        same("sender of the next one", x.proposal(3), 2);
    }

    private static void getsAPropose() {
        Document.says("Who gets a propose gets a plan for it (number, song and beat), in place of another plan (a "
            + "firm one, too), unless the present plan is for a proposal with a greater number, and sends a vote to "
            + "who sent the propose, in any case.");
        // Two votes are needed and a firm plan waits for the beat 300.
        OneBeat x = with(NEAR + "margin 300;");
        x.propose(4);
        players("ahead of it", x, 1, 1, 0, 0, 0, 0, -1);
        x.pass(1);
        players("no plan before", x, 1, 1, 1, 0, 0, 1, 0);
        messages("vote", x, row(3, 1, 0, 2, 1, 0));
        x.pass(2);
        players("a firm one", x, 1, 1, 3, 0, 0, 2, 0);
        x.propose(5);
        x.pass(1);
        players("in place of a firm one", x, 1, 1, 4, 0, 0, 1, 1);
        messages("vote", x, row(3, 1, 0, 5, 4, 1));
        x.pass(2);
        passes(x, 302 - 6);
        players("a tick ahead of the beat", x, 1, 1, 302, 0, 0, 2, 1);
        x.pass(1);
        players("its song at its beat", x, 1, 1, 303, 0, 5, 0, -1, 1, 0, 303);
        // Its vote and the give up are lost, so a loose plan for proposal 0 is left.
        OneBeat y = with(NEAR + "patience 3;");
        y.propose(4);
        y.cut(1, 0, true);
        y.pass(1);
        y.cut(0, 1, true);
        y.pass(2);
        players("a loose one is left", y, 1, 1, 3, 0, 0, 1, 0);
        y.cut(0, 1, false);
        y.cut(1, 0, false);
        y.propose(5);
        y.pass(1);
        players("in place of a loose one", y, 1, 1, 4, 0, 0, 1, 1);
        messages("vote", y, row(3, 1, 0, 5, 4, 1));
    }

    private static void getsAProposeOlderPlans() {
        // Player 2 hears of proposal 0 at 9, and of proposal 1 by player 1 at 2, firmly at 4.
        OneBeat x = with("players 3;link 0 2 9 8;link 1 2 1 1;need 2;margin 300;patience 1;");
        x.propose(4);
        x.pass(1);
        x.lead(1);
        x.power(0, false);
        same("given up", x.state(8), 1);
        x.propose(5);
        // So its give up does not come.
        x.cut(1, 2, true);
        x.pass(1);
        players("of a greater number", x, 2, 1, 2, 0, 0, 1, 1);
        x.power(0, true);
        x.pass(7);
        players("stays, loose", x, 2, 1, 9, 0, 0, 1, 1);
        messages("votes in any case, to who sent the propose", x, row(5, 0, 2, 10, 3, 0), row(3, 2, 0, 17, 9, 0));
        OneBeat y = with("players 3;link 0 2 9 8;link 1 2 1 1;need 2;margin 300;patience 3;");
        y.propose(4);
        y.pass(3);
        y.lead(1);
        y.propose(5);
        y.pass(3);
        players("of a greater number, firm", y, 2, 1, 6, 0, 0, 2, 1);
        y.pass(3);
        players("stays firm", y, 2, 1, 9, 0, 0, 2, 1);
        messages("votes in any case, to who sent the propose", y, row(5, 0, 2, 12, 3, 0), row(3, 2, 0, 17, 9, 0));
    }

    private static void aVoteCounts() {
        Document.says("A vote counts if its proposal is open, it arrives at the sender of the proposal, and that "
            + "player is up.");
        OneBeat x = with("players 3;link 0 1 2 3;link 0 2 1 9;");
        x.propose(1);
        x.pass(4);
        same("before it", x.proposal(4), 1);
        x.pass(1);
        same("counts", x.proposal(4), 2);
        OneBeat y = with(PAIR);
        y.propose(1);
        y.pass(4);
        y.power(0, false);
        y.pass(1);
        proposals("the sender is down", y, 1, 7, 50, 0, 1, 0);
        y.power(0, true);
        y.pass(9);
        proposals("lost for good", y, 1, 7, 50, 0, 1, 0);
        OneBeat z = with(PAIR);
        z.propose(1);
        z.power(0, false);
        z.pass(4);
        z.power(0, true);
        z.pass(1);
        proposals("the sender is up again", z, 1, 7, 50, 0, 2, 1);
        // The vote for proposal 0 comes at 5, when proposal 1 is open.
        OneBeat w = with(PAIR + "patience 4;");
        w.propose(1);
        w.pass(4);
        w.propose(2);
        w.pass(1);
        proposals("for one that was given up", w, 2, 11, 8, 0, 1, 0);
        OneBeat v = with("players 3;link 0 1 1 1;link 0 2 1 2;need 2;");
        v.propose(1);
        v.pass(2);
        proposals("enough votes", v, 1, 5, 50, 0, 2, 1);
        v.pass(1);
        proposals("for one that was committed", v, 1, 5, 50, 0, 2, 1);
        states("is not lost", v, 3, 3, 0, 0, 6, 0);
        load(v, "players 3;link 0 1 1 1;link 0 2 1 2;need 2;patience 9;");
        v.propose(1);
        v.pass(2);
        v.cut(0, 1, true);
        v.cut(0, 2, true);
        v.propose(2);
        v.pass(1);
        proposals("for an older one that was committed", v, 2, 7, 11, 0, 1, 0);
    }

    private static void asManyVotesAsNeeded() {
        Document.says("As soon as there are as many votes as needed (the sender's own vote included; at once, if one "
            + "is enough), the proposal is committed:");
        // The vote of player i is at player 0 at the time i + 1, so need votes are there at the time need.
        String star = "players 8;link 0 1 1 1;link 0 2 2 1;link 0 3 3 1;link 0 4 4 1;link 0 5 5 1;link 0 6 6 1;"
            + "link 0 7 7 1;";
        for (int need = 1; need <= 8; need++) {
            OneBeat x = with(star + "need " + need + ";margin 100;");
            x.propose(1);
            same("need " + need, x.state(7), need == 1 ? 1 : 0);
            for (int time = 1; time <= 9; time++) {
                x.pass(1);
                same("votes of " + need + " at " + time, x.proposal(4), Math.min(need, Math.max(1, time)));
                same("committed by " + need + " at " + time, x.proposal(5), time >= need ? 1 : 0);
                same("plan of the sender", x.player(0, 4), time >= need ? 2 : 1);
            }
            same("committed", x.state(7), 1);
        }
        OneBeat y = with(star);
        y.propose(1);
        y.pass(7);
        same("all are needed without need", y.proposal(5), 0);
        y.pass(1);
        same("all", y.proposal(5), 1);
    }

    private static void commitIsSent() {
        Document.says("the sender gets a firm plan for it (as others do, below), and a commit (with number, song and "
            + "beat) is sent to all others.");
        OneBeat x = with("players 4;link 0 1 1 1;link 0 2 1 5;link 0 3 4 5;need 2;margin 20;");
        x.propose(44);
        x.power(3, false);
        x.pass(1);
        players("a tick ahead of it", x, 0, 1, 1, 0, 0, 1, 0);
        x.power(0, false);
        x.power(0, true);
        players("without its plan", x, 0, 1, 1, 0, 0, 0, -1);
        x.pass(1);
        players("firm, though it had none", x, 0, 1, 2, 0, 0, 2, 0);
        messages("commits", x, row(4, 0, 1, 3, 5, 0), row(4, 0, 2, 3, 6, 0), row(2, 0, 3, 4, 2, 0),
            row(3, 2, 0, 6, 4, 0), row(4, 0, 3, 6, 7, 0));
        x.pass(2);
        x.power(3, true);
        same("the propose was lost", x.state(5), 1);
        x.pass(2);
        players("number", x, 3, 1, 6, 0, 0, 2, 0);
        x.pass(13);
        players("a tick ahead of the beat", x, 3, 1, 19, 0, 0, 2, 0);
        x.pass(1);
        players("song and beat", x, 3, 1, 20, 0, 44, 0, -1, 1, 0, 20);
        players("song and beat of the sender", x, 0, 1, 20, 0, 44, 0, -1, 1, 0, 20);
        // The sender drops its plan and gets that of proposal 0 ahead of the vote for its own one.
        OneBeat y = with("players 4;link 0 1 4 9;link 0 2 1 1;link 1 3 4 4;need 2;margin 300;");
        y.propose(1);
        y.pass(2);
        same("committed", y.proposal(5), 1);
        y.lead(1);
        y.propose(2);
        y.power(1, false);
        y.power(1, true);
        y.pass(7);
        players("firm for 0", y, 1, 1, 9, 0, 0, 2, 0);
        y.pass(1);
        same("committed", y.proposal(5), 1);
        players("firm for 1, in place of it", y, 1, 1, 10, 0, 0, 2, 1);
    }

    private static void getsACommit() {
        Document.says("Who gets a commit gets a firm plan for it, in place of another plan, unless the present plan "
            + "is for a proposal with a greater number.");
        // Player 1 misses the propose of proposal 1, whose commit comes at the time 7.
        String trio = "players 3;link 0 1 1 1;link 0 2 1 1;need 2;margin 300;patience 4;";
        OneBeat x = with(trio);
        x.cut(1, 0, true);
        x.cut(2, 0, true);
        x.propose(1);
        x.pass(1);
        x.cut(0, 1, true);
        x.pass(3);
        players("loose for 0", x, 1, 1, 4, 0, 0, 1, 0);
        x.cut(2, 0, false);
        commitOfTheNextOne(x, "in place of a loose one");
        OneBeat y = with(trio);
        y.propose(1);
        y.pass(4);
        players("firm for 0", y, 1, 1, 4, 0, 0, 2, 0);
        y.cut(0, 1, true);
        commitOfTheNextOne(y, "in place of a firm one");
        OneBeat z = with(trio);
        z.pass(4);
        z.propose(1);
        z.pass(2);
        players("loose for it", z, 1, 1, 6, 0, 0, 1, 0);
        z.pass(1);
        players("in place of the loose one for it", z, 1, 1, 7, 0, 0, 2, 0);
        greaterPlans();
    }

    private static void commitOfTheNextOne(OneBeat x, String name) {
        same("time", x.state(1), 4);
        x.propose(2);
        x.cut(0, 1, false);
        x.pass(2);
        players(name + ", a tick ahead of it", x, 1, 1, 6, 0, 0, x.player(1, 4), 0);
        x.pass(1);
        players(name, x, 1, 1, 7, 0, 0, 2, 1);
        passes(x, 296);
        same(name + ", not at the beat of 0", x.player(1, 3), 0);
        x.pass(1);
        players(name + ", at its beat", x, 1, 1, 304, 0, 2, 0, -1, 1, 0, 304);
    }

    private static void greaterPlans() {
        // The commit of proposal 0 is at player 2 at 11; proposal 1 of player 1 is there at 3, its commit at 5.
        String late = "players 4;link 0 2 9 9;link 0 3 1 1;link 1 2 1 1;need 2;margin 300;";
        OneBeat x = with(late);
        x.propose(1);
        x.pass(2);
        same("committed", x.proposal(5), 1);
        x.lead(1);
        x.propose(2);
        x.pass(8);
        players("firm for 1", x, 2, 1, 10, 0, 0, 2, 1);
        x.pass(1);
        players("a greater one stays firm", x, 2, 1, 11, 0, 0, 2, 1);
        passes(x, 291);
        players("a tick behind the beat of 0", x, 2, 1, 302, 0, 2, 0, -1, 1, 0, 302);
        OneBeat y = with(late);
        y.propose(1);
        y.pass(2);
        y.lead(1);
        y.cut(2, 1, true);
        y.propose(2);
        y.pass(8);
        players("loose for 1", y, 2, 1, 10, 0, 0, 1, 1);
        y.pass(1);
        players("a greater one stays loose", y, 2, 1, 11, 0, 0, 1, 1);
    }

    private static void theDeadline() {
        Document.says("If the time is the deadline and the proposal is still open, it is given up: it is not open "
            + "any more; if its sender is up, the sender drops the own plan, if it is for this proposal, and sends a "
            + "give up to all others.");
        int[] patience = {1, 2, 49, 50, 51, 199, 200};
        for (int p : patience) {
            OneBeat x = with("players 3;link 0 2 1 1;patience " + p + ";");
            x.propose(1);
            passes(x, p - 1);
            same("a tick ahead of the deadline " + p, x.proposal(5), 0);
            same("given up", x.state(8), 0);
            x.pass(1);
            same("at the deadline " + p, x.proposal(5), 2);
            same("given up", x.state(8), 1);
            same("it is not open any more", x.propose(2), p + 3);
        }
        // The vote is there at 5, ahead of the deadline, at it, and after it.
        for (int p = 4; p <= 6; p++) {
            OneBeat x = with(PAIR + "patience " + p + ";");
            x.propose(1);
            x.pass(6);
            same("votes by " + p, x.proposal(4), p >= 5 ? 2 : 1);
            same("fate by " + p, x.proposal(5), p >= 5 ? 1 : 2);
            states("given up by " + p, x, 2, 6, 0, p >= 5 ? 1 : 0, 3, 0, 1, p >= 5 ? 1 : 0, p >= 5 ? 0 : 1);
        }
        sendsGiveUps();
        givenUpByWhoDoesNotLead();
    }

    private static void sendsGiveUps() {
        OneBeat y = with("players 3;link 1 0 7 1;link 1 2 5 1;patience 3;");
        y.lead(1);
        y.propose(1);
        y.pass(2);
        players("plan of the sender", y, 1, 1, 2, 0, 0, 1, 0);
        y.pass(1);
        players("plan of the sender", y, 1, 1, 3, 0, 0, 0, -1);
        messages("give ups", y, row(2, 1, 2, 5, 1, 0), row(2, 1, 0, 7, 0, 0), row(5, 1, 2, 8, 3, 0),
            row(5, 1, 0, 10, 2, 0));
        OneBeat z = with("players 3;link 1 0 7 1;link 1 2 5 1;patience 3;");
        z.lead(1);
        z.propose(1);
        z.pass(2);
        z.power(1, false);
        z.pass(1);
        proposals("given up, though its sender is down", z, 1, 15, 3, 1, 1, 2);
        messages("no give ups then", z, row(2, 1, 2, 5, 1, 0), row(2, 1, 0, 7, 0, 0));
        OneBeat w = with("players 3;link 1 0 7 1;link 1 2 5 1;patience 3;");
        w.lead(1);
        w.propose(1);
        w.power(1, false);
        w.pass(2);
        w.power(1, true);
        w.pass(1);
        same("up again, without a plan", w.state(4), 4);
    }

    private static void givenUpByWhoDoesNotLead() {
        OneBeat x = with(PAIR + "patience 4;");
        x.propose(1);
        x.lead(1);
        x.pass(3);
        same("plan of the sender", x.player(0, 4), 1);
        x.pass(1);
        same("the sender drops its plan", x.player(0, 4), 0);
        same("the conductor does not yet", x.player(1, 4), 1);
        x.pass(2);
        same("the conductor does by the give up", x.player(1, 4), 0);
        OneBeat y = with(PAIR + "patience 4;");
        y.propose(1);
        y.lead(1);
        y.power(1, false);
        y.pass(4);
        same("the conductor is down, the sender sends", y.state(4), 2);
        OneBeat z = with(PAIR + "patience 4;");
        z.propose(1);
        z.lead(1);
        z.power(0, false);
        z.pass(4);
        same("the sender is down, the conductor does not send", z.state(4), 2);
        // The same without any change by the proposal before, and with one.
        OneBeat w = with("players 2;patience 3;");
        w.propose(1);
        w.pass(3);
        w.propose(2);
        same("plan of the second one", w.player(0, 5), 1);
        w.pass(3);
        players("dropped", w, 0, 1, 6, 0, 0, 0, -1);
        OneBeat v = with(NEAR + "patience 3;margin 3;");
        v.propose(1);
        v.pass(3);
        same("changed", v.player(0, 6), 1);
        v.cut(0, 1, true);
        v.propose(2);
        v.pass(3);
        players("dropped after a change", v, 0, 1, 6, 0, 1, 0, -1);
    }

    private static void theSendersPlanAtTheDeadline() {
        // Player 1 leads from 2 on and proposes, drops its plan, and gets one for the older proposal 0 at 9 and 11.
        String late = "players 3;link 0 1 9 9;link 0 2 1 1;need 2;margin 300;";
        OneBeat x = with(late + "patience 12;");
        x.propose(1);
        x.pass(2);
        x.lead(1);
        x.propose(2);
        x.power(1, false);
        x.power(1, true);
        x.pass(9);
        players("firm for 0", x, 1, 1, 11, 0, 0, 2, 0);
        x.pass(2);
        same("open", x.proposal(5), 0);
        x.pass(1);
        same("given up", x.proposal(5), 2);
        players("firm for 0 still", x, 1, 1, 14, 0, 0, 2, 0);
        OneBeat y = with(late + "patience 8;");
        y.propose(1);
        y.pass(2);
        y.lead(1);
        y.propose(2);
        y.power(1, false);
        y.power(1, true);
        y.pass(8);
        same("given up", y.proposal(5), 2);
        players("loose for 0 still", y, 1, 1, 10, 0, 0, 1, 0);
    }

    private static void getsAGiveUp() {
        Document.says("Who gets a give up drops the plan, if it is for this proposal and not firm.");
        OneBeat x = with(PAIR + "patience 4;");
        x.propose(1);
        x.pass(5);
        players("a tick ahead of it", x, 1, 1, 5, 0, 0, 1, 0);
        x.pass(1);
        players("dropped", x, 1, 1, 6, 0, 0, 0, -1);
        // The give up of proposal 0 is at player 1 at 12; proposal 1 of player 2 is there at 4, its commit at 6.
        String late = "players 3;link 0 1 9 9;link 1 2 1 1;need 2;margin 300;patience 3;";
        OneBeat y = with(late);
        y.propose(1);
        y.pass(3);
        y.lead(2);
        y.propose(2);
        y.pass(8);
        players("firm for another one", y, 1, 1, 11, 0, 0, 2, 1);
        y.pass(1);
        players("stays", y, 1, 1, 12, 0, 0, 2, 1);
        OneBeat z = with(late);
        z.propose(1);
        z.pass(3);
        z.lead(2);
        z.cut(1, 2, true);
        z.propose(2);
        z.pass(1);
        z.cut(2, 1, true);
        z.pass(7);
        players("loose for another one", z, 1, 1, 11, 0, 0, 1, 1);
        z.pass(1);
        players("stays", z, 1, 1, 12, 0, 0, 1, 1);
        // Proposal 0 is committed and firm; the give up is that of proposal 1, whose propose was lost.
        OneBeat w = with(NEAR + "margin 300;patience 3;");
        w.propose(1);
        w.pass(3);
        w.cut(0, 1, true);
        w.propose(2);
        w.cut(0, 1, false);
        w.pass(3);
        same("given up", w.state(8), 1);
        w.pass(1);
        same("the give up is there", w.state(3), 0);
        players("firm for an older one", w, 1, 1, 7, 0, 0, 2, 0);
        OneBeat v = with(PAIR + "patience 4;");
        v.propose(1);
        v.pass(2);
        v.power(1, false);
        v.power(1, true);
        v.pass(4);
        players("without a plan", v, 1, 1, 6, 0, 0, 0, -1);
    }

    private static void whoChanges() {
        Document.says("A player who is up, has a firm plan, and whose estimate is its beat or more, changes: the "
            + "player plays the song, the plan is gone; the change is late if the estimate is more than the beat.");
        // The beat is 5; the commit is at player 1 at the time 1, when its clock shows 1 more than the offset.
        for (int offset = 0; offset <= 8; offset++) {
            OneBeat x = with(NEAR + "need 1;margin 5;clock 1 " + offset + " 0;");
            x.propose(3);
            int due = Math.max(1, 5 - offset);
            int late = 1 + offset > 5 ? 1 : 0;
            passes(x, due - 1);
            players("a tick ahead, by " + offset, x, 1, 1, due - 1 + offset, 0, 0, due > 1 ? 2 : 0, due > 1 ? 0 : -1, 0, 0,
                -1);
            same("changes in the tick", x.pass(1), 1 + (due == 5 ? 1 : 0));
            players("changed, by " + offset, x, 1, 1, due + offset, 0, 3, 0, -1, 1, late, due);
        }
        // At 20 the clock gains a tick, and shows 21 after 19.
        OneBeat x = with("players 1;clock 0 0 50;margin 20;");
        x.propose(3);
        x.pass(19);
        players("a tick ahead", x, 0, 1, 19, 0, 0, 2, 0);
        x.pass(1);
        players("the beat is jumped over", x, 0, 1, 21, 0, 3, 0, -1, 1, 1, 20);
        OneBeat y = with(NEAR + "margin 1;");
        y.cut(1, 0, true);
        y.propose(3);
        y.pass(30);
        players("not firm", y, 0, 1, 30, 0, 0, 1, 0);
        players("not firm", y, 1, 1, 30, 0, 0, 1, 0);
        // It is the estimate that counts, not the clock: the guess is -40 from the time 2 on.
        OneBeat z = with(NEAR + "need 1;margin 5;clock 1 40 0;");
        z.ask(1);
        z.pass(2);
        z.propose(3);
        z.pass(4);
        players("by the estimate", z, 1, 1, 46, -40, 0, 2, 0);
        z.pass(1);
        players("by the estimate", z, 1, 1, 47, -40, 3, 0, -1, 1, 0, 7);
        OneBeat v = with("players 1;margin 5;");
        v.propose(0);
        same("to the song that is played", v.pass(5), 1);
        players("to the song that is played", v, 0, 1, 5, 0, 0, 0, -1, 1, 0, 5);
        OneBeat w = with(NEAR + "need 1;margin 5;");
        w.propose(3);
        w.pass(4);
        w.power(1, false);
        same("who is down does not", w.pass(1), 1);
        same("song", w.player(1, 3), 0);
    }

    private static void aTick() {
        Document.says("When a tick passes, the time becomes greater by 1; then the messages that arrive at this time "
            + "are handled, by ascending numbers; then an open proposal whose deadline it is is given up; then each "
            + "player, by ascending indexes, who can change changes.");
        // Both asks come at 2; that of player 2 was sent ahead of the other one.
        OneBeat x = with("players 3;link 0 1 5 1;link 0 2 5 2;");
        x.ask(2);
        x.pass(1);
        x.ask(1);
        x.pass(1);
        same("time", x.state(1), 2);
        messages("by numbers", x, row(1, 0, 2, 7, 2, -1), row(1, 0, 1, 7, 3, -1));
        // The vote comes ahead of the ask, so the commits are sent ahead of the tell.
        OneBeat y = with("players 3;link 0 1 1 1;link 0 2 9 1;need 2;margin 9;");
        y.propose(4);
        y.pass(1);
        y.ask(2);
        y.pass(1);
        messages("the commit at once", y, row(4, 0, 1, 3, 4, 0), row(2, 0, 2, 9, 1, 0), row(4, 0, 2, 11, 5, 0),
            row(1, 0, 2, 11, 6, -1));
        // The tell of the time comes with the beat, and only by its guess the beat is reached.
        OneBeat z = with(NEAR + "need 1;margin 2;clock 1 -30 0;");
        z.ask(1);
        z.propose(4);
        same("messages ahead of changes", z.pass(2), 2);
        players("on time by the guess", z, 1, 1, -28, 30, 4, 0, -1, 1, 0, 2);
        // The commit and the beat come at 3.
        OneBeat w = with(NEAR + "margin 3;");
        w.propose(4);
        w.pass(2);
        same("both at once", w.pass(1), 2);
        same("not late", w.state(11), 0);
        // The vote is there at the deadline: committed, not given up, and its sender changes at once.
        OneBeat v = with(NEAR + "margin 2;patience 2;");
        v.propose(4);
        v.pass(1);
        same("vote, deadline and change", v.pass(1), 1);
        states("committed and changed", v, 2, 2, 0, 1, 3, 0, 1, 1, 0, 2, 1, 0);
        // Give ups are numbered behind what the messages of the same tick send.
        OneBeat u = with("players 3;link 0 1 9 1;link 0 2 1 1;patience 4;");
        u.propose(4);
        u.pass(3);
        u.ask(1);
        u.pass(1);
        messages("tell ahead of give ups", u, row(5, 0, 2, 5, 6, 0), row(2, 0, 1, 9, 0, 0), row(1, 0, 1, 13, 4, -1),
            row(5, 0, 1, 13, 5, 0));
    }
}
