/** The sentences about numbers, players, links, messages and the bringing together of clocks. */
final class TermsSentences extends Check {
    // A propose is at player 1 after 2 ticks, its vote back after 5, the commit there after 7.
    private static final String PAIR = "players 2;link 0 1 2 3;";

    private TermsSentences() {
    }

    static void run() {
        Document.under("What it is");
        Document.says("A change of songs at one beat: players with clocks that drift send messages over links with "
            + "delays; a conductor proposes a song and a beat, collects votes, commits or gives up; clocks are "
            + "brought together by asking the conductor for the time, late changes and spreads are told, and the "
            + "least margin that is safe is found.");
        wholeStory();
        Document.says("An object is used for at most 512 calls after it has been made; what later calls answer is "
            + "free.");
        manyCalls();
        Document.under("Terms");
        Document.says("Conventions:");
        conventions();
        Document.says("Players and links:");
        playersAndClocks();
        links();
        Document.says("Messages:");
        sending();
        losing();
        kinds();
        Document.says("Bringing clocks together:");
        asking();
        telling();
    }

    private static void wholeStory() {
        OneBeat x = with("players 2;link 0 1 1 1;clock 1 7 0;");
        same("ask", x.ask(1), true);
        same("pass", x.pass(2), 0);
        same("guess", x.player(1, 2), -7);
        same("least safe margin", x.safest(), 3);
        same("propose", x.propose(9), 5);
        same("pass", x.pass(3), 2);
        same("late", x.state(11), 0);
        same("spread", x.spread(), 0);
    }

    private static void manyCalls() {
        OneBeat x = new OneBeat();
        for (int i = 0; i < 511; i++) {
            x.pass(50);
        }
        same("call 512", x.state(1), 511 * 50);
        OneBeat y = with("players8;need1;patience200;link0 1 9 9;link0 2 9 9;link0 3 9 9;link0 4 9 9;link0 5 9 9;"
            + "link0 6 9 9;link0 7 9 9;");
        // 7 appends, the load and 504 more calls.
        for (int i = 0; i < 500; i++) {
            y.propose(i % 100);
        }
        same("on their way", y.state(3), 500 * 14);
        same("the last one, at call 510", y.message(6999, 4), 6999);
        y.pass(9);
        same("call 512", y.state(4), 500 * 21);
    }

    private static void conventions() {
        Document.says("All numbers are integers, except where double is named.");
        OneBeat x = with("players 2;clock 1 1 0;");
        sameDouble("meanError", x.meanError(), 0.5);
        Document.says("Division rounds toward zero.");
        OneBeat y = with("players 5;clock 1 0 50;clock 2 0 -50;clock 3 0 49;clock 4 0 -49;margin (0-7)/2+10;");
        same("margin", y.state(12), 7);
        y.pass(19);
        clocks(y, 19, 0, 0, 0, 0);
        y.pass(1);
        clocks(y, 20, 1, -1, 0, 0);
        y.pass(1);
        clocks(y, 21, 1, -1, 1, -1);
        y.pass(18);
        clocks(y, 39, 1, -1, 1, -1);
        y.pass(1);
        clocks(y, 40, 2, -2, 1, -1);
        Document.says("The time is counted in ticks, 0 at first.");
        OneBeat z = new OneBeat();
        same("at first", z.state(1), 0);
        z.pass(1);
        same("a tick later", z.state(1), 1);
        z.pass(50);
        same("51 ticks later", z.state(1), 51);
        load(z, "players 1;");
        same("after a load", z.state(1), 0);
    }

    /** What the clocks of players 1 and on show more or less than the time. */
    private static void clocks(OneBeat x, int time, int... more) {
        same("time", x.state(1), time);
        for (int i = 0; i < more.length; i++) {
            same("clock of " + (i + 1) + " at " + time, x.player(i + 1, 1), time + more[i]);
        }
    }

    private static void playersAndClocks() {
        Document.says("There are 1 to 8 players, with indexes from 0.");
        for (int n = 1; n <= 8; n++) {
            OneBeat x = with("players " + n + ";");
            int count = n;
            same("players", x.state(0), n);
            same("the first one of " + n, x.player(0, 0), 1);
            same("the last one of " + n, x.player(n - 1, 0), 1);
            refuses("one more than " + n, x, INDEX, () -> x.player(count, 0));
            refuses("one less than 0", x, INDEX, () -> x.player(-1, 0));
        }
        reads(RANGE, "players ^0;");
        reads(RANGE, "players ^9;");
        Document.says("One of them is the conductor, player 0 at first.");
        OneBeat x = new OneBeat();
        same("conductor of a new object", x.state(2), 0);
        load(x, "players 8;");
        same("conductor at first", x.state(2), 0);
        x.lead(7);
        same("conductor", x.state(2), 7);
        load(x, "players 8;");
        same("conductor after a load", x.state(2), 0);
        Document.says("A player is up or down (all are up at first), and plays a song (0 to 99; song 0 at first).");
        songs();
        Document.says("The clock of a player has an offset (-999 to 999) and a drift (-50 to 50): at the time t it "
            + "shows t + offset + t * drift / 1000.");
        offsetsAndDrifts();
        Document.says("The guess of a player is a number, 0 at first (always 0 for the conductor); its estimate is "
            + "what its clock shows plus its guess.");
        guesses();
    }

    private static void songs() {
        OneBeat x = with("players 8;");
        x.power(3, false);
        same("down", x.player(3, 0), 0);
        load(x, "players 8;");
        for (int p = 0; p < 8; p++) {
            same("up at first", x.player(p, 0), 1);
            same("song at first", x.player(p, 3), 0);
        }
        OneBeat y = with("players 1;margin 1;");
        int[] songs = {1, 99, 98, 0};
        for (int song : songs) {
            y.propose(song);
            y.pass(1);
            same("song", y.player(0, 3), song);
        }
        refuses("song -1", y, ARGUMENT, () -> y.propose(-1));
        refuses("song 100", y, ARGUMENT, () -> y.propose(100));
    }

    private static void offsetsAndDrifts() {
        int[] offsets = {-999, -998, -1, 0, 1, 998, 999};
        int[] drifts = {-50, -49, -1, 0, 1, 49, 50};
        for (int i = 0; i < 7; i++) {
            for (int d : drifts) {
                OneBeat x = with("players 2;clock 1 " + offsets[i] + " " + d + ";");
                same("offset " + offsets[i], x.player(1, 1), offsets[i]);
                passes(x, 99);
                same("drift " + d, x.player(1, 1), 99 + offsets[i] + 99 * d / 1000);
                passes(x, 900);
                same("drift " + d, x.player(1, 1), 999 + offsets[i] + 999 * d / 1000);
                x.pass(1);
                same("drift " + d, x.player(1, 1), 1000 + offsets[i] + d);
                x.pass(1);
                same("drift " + d, x.player(1, 1), 1001 + offsets[i] + d);
            }
        }
        reads(RANGE, "players 2;clock 1 ^-1000 0;");
        reads(RANGE, "players 2;clock 1 ^1000 0;");
        reads(RANGE, "players 2;clock 1 0 ^-51;");
        reads(RANGE, "players 2;clock 1 0 ^51;");
    }

    private static void guesses() {
        OneBeat x = with("players 3;link 0 1 1 1;link 0 2 1 1;clock 0 3 0;clock 1 10 0;clock 2 -30 0;");
        for (int p = 0; p < 3; p++) {
            same("guess at first", x.player(p, 2), 0);
        }
        same("estimate without a guess", x.player(1, 9), 7);
        x.ask(1);
        x.ask(2);
        x.pass(2);
        // Told 4 at 1, heard at 2 when player 1 shows 12, player 2 shows -28 and the conductor 5.
        same("guess", x.player(1, 2), 4 + 1 - 12);
        same("guess", x.player(2, 2), 4 + 1 + 28);
        same("estimate", x.player(1, 9), 12 - 7 - 5);
        same("estimate", x.player(2, 9), 0);
        same("guess of the conductor", x.player(0, 2), 0);
        x.lead(1);
        same("guess of the new conductor", x.player(1, 2), 0);
        same("estimate of the conductor", x.player(1, 9), 0);
        same("estimate of the one before", x.player(0, 9), 5 - 12);
    }

    private static void links() {
        Document.says("A link leads from one player to another one and has a delay of 1 to 9 ticks; it is open or "
            + "cut.");
        int[] delays = {1, 2, 8, 9};
        for (int d : delays) {
            OneBeat x = with("players 2;link 0 1 " + d + " " + (10 - d) + ";");
            same("open", x.link(0, 1), d);
            same("open", x.link(1, 0), 10 - d);
            x.cut(0, 1, true);
            same("cut", x.link(0, 1), -d);
            same("still open", x.link(1, 0), 10 - d);
        }
        reads(RANGE, "players 2;link 0 1 ^0 1;");
        reads(RANGE, "players 2;link 0 1 ^10 1;");
        reads(RANGE, "players 2;link 0 1 1 ^0;");
        reads(RANGE, "players 2;link 0 1 1 ^10;");
        reads(TWICE, "players 2;link 1 ^1 1 1;");
        Document.says("There is at most one for each two players in each direction.");
        reads(FINE, "players 3;link 0 1 1 2;link 0 2 3 4;link 2 1 5 6;");
        reads(TWICE, "players 3;link 0 1 1 2;link 0 2 3 4;link 2 1 5 6;link 0 ^1 1 2;");
        reads(TWICE, "players 3;link 0 1 1 2;link 0 2 3 4;link 2 1 5 6;link 1 ^2 1 2;");
    }

    private static void sending() {
        Document.says("A message that is sent at the time t over an open link with the delay d arrives at the time t "
            + "+ d; without an open link it is lost.");
        for (int d = 1; d <= 9; d++) {
            OneBeat x = with("players 2;link 0 1 " + d + " 1;");
            x.pass(3);
            x.propose(1);
            same("arrives", x.message(0, 3), 3 + d);
            passes(x, d - 1);
            same("not there at " + x.state(1), x.player(1, 4), 0);
            same("on its way", x.message(0, 0), 2);
            x.pass(1);
            same("there at " + x.state(1), x.player(1, 4), 1);
            same("the vote is on its way", x.message(0, 0), 3);
        }
        OneBeat x = with("players 3;link 0 1 2 2;");
        x.propose(1);
        states("no link", x, 3, 0, 0, 1, 2, 1);
        OneBeat y = with(PAIR);
        y.cut(0, 1, true);
        y.propose(1);
        states("cut", y, 2, 0, 0, 0, 1, 1);
        y.cut(0, 1, false);
        y.pass(9);
        same("lost for good", y.player(1, 4), 0);
        OneBeat z = with(PAIR);
        z.cut(1, 0, true);
        z.propose(1);
        states("cut in the other direction", z, 2, 0, 0, 1, 1, 0);
        same("ask over the cut link", z.ask(1), false);
        states("lost", z, 2, 0, 0, 1, 2, 1);
        Document.says("Messages have numbers, in the order in which they are sent, lost ones included, from 0 on "
            + "(since the latest successful load).");
        numbers();
    }

    private static void numbers() {
        OneBeat x = with("players 3;link 0 2 5 5;");
        x.ask(2);
        messages("the first one", x, row(0, 2, 0, 5, 0, -1));
        x.ask(1);
        x.propose(1);
        messages("1 and 2 are lost", x, row(0, 2, 0, 5, 0, -1), row(2, 0, 2, 5, 3, 0));
        load(x, "players 3;link 0 2 5 5");
        x.ask(2);
        same("after a load with an error", x.message(2, 4), 4);
        load(x, "players 3;link 0 2 5 5;");
        same("after a load", x.state(4), 0);
        x.ask(2);
        messages("after a load", x, row(0, 2, 0, 5, 0, -1));
    }

    private static void losing() {
        Document.says("A message that arrives at a player who is down is lost, too.");
        downAt();
        OneBeat x = with(PAIR);
        x.propose(5);
        x.power(1, false);
        x.pass(2);
        states("a propose", x, 2, 2, 0, 0, 1, 1);
        OneBeat y = with(PAIR);
        y.propose(5);
        y.pass(2);
        y.power(0, false);
        y.pass(3);
        states("a vote", y, 2, 5, 0, 0, 2, 1);
        OneBeat z = with(PAIR);
        z.propose(5);
        z.pass(5);
        z.power(1, false);
        z.pass(2);
        states("a commit", z, 2, 7, 0, 0, 3, 1);
        z.power(1, true);
        same("no plan by it", z.player(1, 4), 0);
        OneBeat w = with(PAIR + "patience 3;");
        w.propose(5);
        w.pass(3);
        w.power(1, false);
        w.pass(2);
        states("a give up", w, 2, 5, 0, 0, 3, 1);
        OneBeat v = with(PAIR);
        v.ask(1);
        v.pass(3);
        v.power(1, false);
        v.pass(2);
        states("a tell", v, 2, 5, 0, 0, 2, 1);
        same("no guess by it", v.player(1, 2), 0);
        Document.says("Cutting a link does not affect messages that are on their way.");
        OneBeat u = with(PAIR);
        u.propose(5);
        u.cut(0, 1, true);
        u.pass(1);
        same("on its way", u.state(3), 1);
        u.pass(1);
        same("there", u.player(1, 4), 1);
        same("not lost", u.state(5), 0);
        u.pass(3);
        same("a commit, sent while it is cut", u.state(5), 1);
    }

    private static void downAt() {
        // The ask is at player 0 at the time 3.
        OneBeat x = with(PAIR);
        x.ask(1);
        x.pass(2);
        x.power(0, false);
        x.pass(1);
        states("down when it arrives", x, 2, 3, 0, 0, 1, 1);
        x.power(0, true);
        x.pass(1);
        states("lost for good", x, 2, 4, 0, 0, 1, 1);
        OneBeat y = with(PAIR);
        y.ask(1);
        y.power(0, false);
        y.pass(2);
        y.power(0, true);
        y.pass(1);
        states("up again when it arrives", y, 2, 3, 0, 1, 2, 0);
        OneBeat z = with(PAIR);
        z.ask(1);
        z.pass(3);
        z.power(0, false);
        z.pass(2);
        states("down after it", z, 2, 5, 0, 0, 2, 0);
    }

    private static void kinds() {
        Document.says("Whenever a message is sent to several players, it is sent to them by ascending indexes.");
        String all = "players 4;link 2 0 9 1;link 2 1 5 1;link 2 3 1 1;";
        OneBeat x = with(all + "patience 2;");
        x.lead(2);
        x.propose(1);
        messages("proposes", x, row(2, 2, 3, 1, 2, 0), row(2, 2, 1, 5, 1, 0), row(2, 2, 0, 9, 0, 0));
        x.pass(2);
        messages("give ups", x, row(5, 2, 3, 3, 6, 0), row(2, 2, 1, 5, 1, 0), row(5, 2, 1, 7, 5, 0),
            row(2, 2, 0, 9, 0, 0), row(5, 2, 0, 11, 4, 0));
        OneBeat y = with(all + "need 2;");
        y.lead(2);
        y.propose(1);
        y.pass(2);
        messages("commits", y, row(4, 2, 3, 3, 6, 0), row(2, 2, 1, 5, 1, 0), row(4, 2, 1, 7, 5, 0),
            row(2, 2, 0, 9, 0, 0), row(4, 2, 0, 11, 4, 0));
        Document.says("The kinds of messages are: 0 ask (for the time), 1 tell (the time), 2 propose, 3 vote, 4 "
            + "commit, 5 give up.");
        OneBeat z = with(PAIR + "patience 5;");
        z.ask(1);
        messages("ask", z, row(0, 1, 0, 3, 0, -1));
        z.pass(3);
        messages("tell", z, row(1, 0, 1, 5, 1, -1));
        z.pass(2);
        z.propose(1);
        messages("propose", z, row(2, 0, 1, 7, 2, 0));
        z.pass(2);
        messages("vote", z, row(3, 1, 0, 10, 3, 0));
        z.pass(3);
        messages("commit", z, row(4, 0, 1, 12, 4, 0));
        z.cut(1, 0, true);
        z.propose(2);
        z.pass(5);
        messages("give up", z, row(5, 0, 1, 17, 7, 1));
    }

    private static void asking() {
        Document.says("A player who is up and not the conductor can ask: it remembers (for each ask by itself) what "
            + "its clock shows then, and sends an ask to the conductor.");
        OneBeat x = with("players 3;link 0 1 1 5;link 0 2 4 2;link 1 2 3 6;");
        refuses("the conductor", x, STATE, () -> x.ask(0));
        x.power(1, false);
        refuses("down", x, STATE, () -> x.ask(1));
        x.power(1, true);
        same("up", x.ask(1), true);
        messages("to the conductor", x, row(0, 1, 0, 5, 0, -1));
        x.lead(1);
        refuses("the new conductor", x, STATE, () -> x.ask(1));
        same("the one before", x.ask(0), true);
        same("another one", x.ask(2), true);
        messages("to the new conductor", x, row(0, 0, 1, 1, 1, -1), row(0, 1, 0, 5, 0, -1), row(0, 2, 1, 6, 2, -1));
        x.power(1, false);
        same("the conductor may be down", x.ask(0), true);
        refuses("down, and the conductor", x, STATE, () -> x.ask(1));
        // Asks at 0, 1 and 3 with clocks 100, 101 and 103; they come at 5, 6 and 8, and the tells 1 tick later.
        OneBeat y = with("players 2;link 0 1 1 5;clock 1 100 0;");
        y.ask(1);
        y.pass(1);
        y.ask(1);
        y.pass(2);
        y.ask(1);
        y.pass(2);
        same("nothing yet", y.player(1, 2), 0);
        y.pass(1);
        same("told 5, 3 of 6 on, at 106", y.player(1, 2), 5 + 3 - 106);
        y.pass(1);
        same("told 6, 3 of 6 on, at 107", y.player(1, 2), 6 + 3 - 107);
        y.pass(2);
        same("told 8, 3 of 6 on, at 109", y.player(1, 2), 8 + 3 - 109);
        // It has a guess by now, but what it remembers is what its clock shows: 109.
        y.ask(1);
        y.pass(6);
        same("told 14, 3 of 6 on, at 115", y.player(1, 2), 14 + 3 - 115);
    }

    private static void telling() {
        Document.says("A player who gets an ask sends a tell back to who asked, with what its own clock shows then "
            + "and with what was remembered.");
        OneBeat x = with("players 3;link 0 1 2 4;link 0 2 9 9;clock 0 500 0;clock 2 -500 0;");
        x.ask(1);
        x.lead(2);
        x.pass(4);
        messages("back to who asked, by who is no conductor any more", x, row(1, 0, 1, 6, 1, -1));
        x.pass(2);
        same("with its own clock", x.player(1, 2), 504 + 3 - 6);
        same("an ask gives no guess to who gets it", x.player(0, 2), 0);
        // Player 0 gets the ask at 9, when it leads no more and has a guess of 200 by player 2.
        OneBeat z = with("players 3;link 0 1 1 9;link 0 2 1 1;clock 2 200 0;");
        z.ask(1);
        z.lead(2);
        z.ask(0);
        z.pass(9);
        same("guess of who tells", z.player(0, 2), 201 + 1 - 2);
        z.pass(1);
        same("what its clock shows is told, not its estimate", z.player(1, 2), 9 + 5 - 10);
        OneBeat y = with(PAIR);
        y.ask(1);
        y.cut(0, 1, true);
        y.pass(3);
        states("without a link back", y, 2, 3, 0, 0, 2, 1);
        hearing();
    }

    private static void hearing() {
        Document.says("Who gets a tell sets the guess to: the time told + (what the own clock shows - what was "
            + "remembered) / 2 - what the own clock shows.");
        for (int there = 1; there <= 9; there += 4) {
            for (int back = 1; back <= 9; back++) {
                OneBeat z = with("players 2;link 0 1 " + back + " " + there + ";clock 0 30 0;clock 1 -999 0;");
                z.pass(7);
                z.ask(1);
                z.pass(there + back);
                int told = 7 + there + 30;
                int own = 7 + there + back - 999;
                same("guess by " + there + " and " + back, z.player(1, 2), told + (there + back) / 2 - own);
            }
        }
        // The clock gains one tick more at 20, so 3 ticks are 4 by it, and loses one, so they are 2.
        OneBeat w = with("players 3;link 0 1 1 2;link 0 2 1 2;clock 1 0 50;clock 2 0 -50;");
        w.pass(18);
        w.ask(1);
        w.ask(2);
        w.pass(3);
        same("by a fast clock", w.player(1, 2), 20 + 2 - 22);
        same("by a slow clock", w.player(2, 2), 20 + 1 - 20);
        Document.says("If this player is the conductor now, the guess stays 0.");
        OneBeat v = with(PAIR + "clock 1 50 0;");
        v.ask(1);
        v.pass(4);
        v.lead(1);
        v.pass(1);
        same("conductor", v.player(1, 2), 0);
        v.lead(0);
        same("not afterwards either", v.player(1, 2), 0);
        OneBeat u = with(PAIR + "clock 1 50 0;");
        u.ask(1);
        u.lead(1);
        u.pass(4);
        u.lead(0);
        u.pass(1);
        same("conductor only before", u.player(1, 2), 3 + 2 - 55);
    }
}
