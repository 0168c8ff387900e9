import java.math.BigInteger;

/** The sentences of promises 1 to 21. */
final class PromiseSentences extends Check {
    // A propose is at player 1 after 2 ticks, its vote back after 5, the commit there after 7.
    private static final String PAIR = "players 2;link 0 1 2 3;";
    // Player 0 sends to the others in 1, 2 and 3 ticks, and gets their votes 1 tick later; 2 votes are enough.
    private static final String FAN = "players 4;link 0 1 1 1;link 0 2 2 1;link 0 3 3 1;need 2;";
    private static final int MIN = Integer.MIN_VALUE;
    private static final int MAX = Integer.MAX_VALUE;

    private PromiseSentences() {
    }

    static void run() {
        promise1();
        promise2();
        promise3();
        promise4();
        promise5();
        promise6();
        promise7();
        promise8();
        promise9();
        promise10();
        promise11();
        promise12();
        promise13();
        promise14();
        promise15();
        promise16();
        promise17();
        promise18();
        promise19();
        promise20();
        promise21();
    }

    private static void promise1() {
        Document.under("Promise 1");
        Document.says("Creates an object with one player, with an empty input buffer.");
        OneBeat x = new OneBeat();
        states("new", x, 1, 0, 0, 0, 0, 0, 0, 0, 0, 1, 0, 0, 1);
        players("new", x, 0, 1, 0, 0, 0, 0, -1, 0, 0, -1, 0);
        refuses("no second player", x, INDEX, () -> x.player(1, 0));
        refuses("no byte to read", x, ARGUMENT, () -> x.load(1));
        same("the first bytes", x.append(0, 0, 0, 0, 0), 20);
        OneBeat y = new OneBeat();
        y.lead(0);
        same("each object by itself", x.undo(), -1);
    }

    private static void promise2() {
        Document.under("Promise 2");
        Document.says("Appends 20 bytes to the input buffer: the 4 bytes of each argument, the most significant byte "
            + "first.");
        OneBeat x = new OneBeat();
        x.append(0x706c6179, 0x65727320, 0x383b6c69, 0x6e6b2036, 0x20372038);
        x.append(0x20393b20, 0x20202020, 0x20202020, 0x20202020, 0x20202020);
        same("players 8;link 6 7 8 9;", x.load(23), 8);
        same("link", x.link(6, 7), 8);
        same("link", x.link(7, 6), 9);
        int[] bytes = {0x7f, 0x80, 0xff, 0, '#'};
        for (int place = 0; place < 20; place++) {
            for (int b : bytes) {
                int[] w = {0x20202020, 0x20202020, 0x20202020, 0x20202020, 0x20202020};
                int shift = 24 - place % 4 * 8;
                w[place / 4] = w[place / 4] & ~(255 << shift) | b << shift;
                same("append", x.append(w[0], w[1], w[2], w[3], w[4]), 20);
                same("byte " + b + " at " + place, x.load(20), SYNTAX);
                same("its place", x.errorOffset(), place);
            }
        }
        Document.says("Returns the new length of the buffer; -1 if it would exceed 600 bytes, and the buffer is "
            + "unchanged then.");
        OneBeat y = new OneBeat();
        y.append(0x706c6179, 0x65727320, 0x343b2020, 0x20202020, 0x20202020);
        for (int i = 2; i <= 30; i++) {
            same("length", y.append(0x20202020, 0x20202020, 0x20202020, 0x20202020, 0x20202020), 20 * i);
        }
        same("620", y.append(-1, -1, -1, -1, -1), -1);
        same("620 again", y.append(0, 0, 0, 0, 0), -1);
        refuses("it is not longer", y, ARGUMENT, () -> y.load(601));
        same("nor other than before", y.load(600), 4);
        same("empty again", y.append(0, 0, 0, 0, 0), 20);
    }

    private static void promise3() {
        Document.under("Promise 3");
        Document.says("Reads the first bytes of the input buffer as a setup text and replaces all data by it; the "
            + "time is 0.");
        replacesAll();
        Document.says("The input buffer is empty afterwards, also if the text has an error.");
        emptiesTheBuffer();
        Document.says("An error leaves all other data unchanged.");
        errorsLeaveAll();
        Document.says("An empty text has a SYNTAX_ERROR.");
        OneBeat y = new OneBeat();
        same("no byte", y.load(0), SYNTAX);
        same("offset", y.errorOffset(), 0);
        y.append(0x706c6179, 0x65727320, 0x343b2020, 0x20202020, 0x20202020);
        same("no byte of 20", y.load(0), SYNTAX);
        same("offset", y.errorOffset(), 0);
        y.append(0x20202020, 0x20202020, 0x20202020, 0x20202020, 0x20202020);
        same("no byte of 20 spaces", y.load(0), SYNTAX);
        same("offset", y.errorOffset(), 0);
        y.append(0x20202020, 0x20202020, 0x20202020, 0x20202020, 0x20202020);
        same("one space is no empty text, but ends too early", y.load(1), SYNTAX);
        same("offset", y.errorOffset(), 1);
        Document.says("- `length`: the number of bytes to read");
        lengths();
        Document.says("Returns the number of players; or the error code of the first error.");
        for (int n = 1; n <= 8; n++) {
            same("players", load(new OneBeat(), "players " + n + ";"), n);
        }
        same("SYNTAX_ERROR", load(new OneBeat(), "players 1;x 9"), -2);
        same("OUT_OF_RANGE", load(new OneBeat(), "players 9;x"), -3);
        same("REPEATED", load(new OneBeat(), "players 1;link 0 0 0 0;"), -4);
        same("TOO_DEEP", load(new OneBeat(), "players 1;margin ((((( x"), -5);
        Document.says("Throws `IllegalArgumentException` if length is negative or greater than the length of the "
            + "buffer; the buffer is unchanged then");
        refusedLengths();
    }

    private static void replacesAll() {
        OneBeat x = with(PAIR + "clock 1 9 9;need 2;patience 9;margin 5;");
        x.lead(1);
        x.ask(0);
        x.pass(5);
        x.propose(5);
        x.pass(14);
        x.cut(1, 0, true);
        x.propose(6);
        x.pass(9);
        states("ahead of it", x, 2, 28, 1, 0, 7, 2, 2, 1, 1, 1, 2, 1, 5);
        same("guess", x.player(0, 2), 8);
        x.propose(7);
        x.power(1, false);
        load(x, PAIR);
        OneBeat fresh = with(PAIR);
        same("as in a new object", x.checksum(), fresh.checksum());
        states("replaced", x, 2, 0, 0, 0, 0, 0, 0, 0, 0, 1, 0, 0, 7);
        players("replaced", x, 1, 1, 0, 0, 0, 0, -1, 0, 0, -1, 0);
        same("link", x.link(0, 1), 2);
        x.propose(1);
        proposals("need and patience", x, 1, 7, 50, 0, 1, 0);
        load(x, "players 2;");
        same("no link any more", x.link(0, 1), 0);
        // Messages are on their way to each of the next times, and none of them arrives after the load.
        OneBeat y = with("players 8;link 0 1 1 9;link 0 2 2 8;link 0 3 3 7;link 0 4 4 6;link 0 5 5 5;link 0 6 6 4;"
            + "link 0 7 9 3;");
        y.propose(4);
        for (int p = 1; p < 8; p++) {
            y.ask(p);
        }
        same("on their way", y.state(3), 14);
        load(y, PAIR);
        fresh.undo();
        load(fresh, PAIR);
        y.propose(6);
        fresh.propose(6);
        for (int time = 0; time <= 20; time++) {
            same("as in a new object at " + time, y.checksum(), fresh.checksum());
            y.pass(1);
            fresh.pass(1);
        }
    }

    private static void emptiesTheBuffer() {
        OneBeat x = new OneBeat();
        put(x, "players 3;players 4;");
        same("a part of it", x.load(10), 3);
        refuses("the rest is gone", x, ARGUMENT, () -> x.load(1));
        same("empty", x.append(0, 0, 0, 0, 0), 20);
        same("an error", x.load(1), SYNTAX);
        refuses("the rest is gone", x, ARGUMENT, () -> x.load(1));
        same("empty", x.append(0, 0, 0, 0, 0), 20);
        same("nothing read", x.load(0), SYNTAX);
        same("empty", x.append(0, 0, 0, 0, 0), 20);
    }

    private static void refusedLengths() {
        OneBeat z = new OneBeat();
        int[] outside = {-1, 1, 20, MIN, MAX};
        for (int length : outside) {
            refuses("load(" + length + ") of an empty buffer", z, ARGUMENT, () -> z.load(length));
        }
        z.append(0x706c6179, 0x65727320, 0x343b2020, 0x20202020, 0x20202020);
        int[] longer = {-1, 21, 600, 601, MIN, MAX};
        for (int length : longer) {
            refuses("load(" + length + ") of 20 bytes", z, ARGUMENT, () -> z.load(length));
        }
        same("all of it is there still", z.load(20), 4);
    }

    private static void errorsLeaveAll() {
        String[] texts = {"players 3;need 1;need", "players 3;clock 1 1 1;patience 0;", "players 1;link 0 0 1 1;",
            "players 3;margin 5+(((((", "players 3;link 0 1 9 9;margin 77;x", ""};
        OneBeat x = with(FAN + "clock 1 5 5;margin 40;patience 30;");
        x.propose(7);
        x.pass(1);
        x.cut(0, 3, true);
        for (String text : texts) {
            long before = x.checksum();
            int code = load(x, text);
            holds("an error in '" + text + "'", code < 0);
            same("data after '" + text + "'", x.checksum(), before);
        }
        states("margin, players", x, 4, 1, 0, 3, 4, 0, 1, 0, 0, 1, 0, 0, 40);
        same("link", x.link(0, 3), -3);
        same("clock", x.player(1, 1), 6);
        x.pass(2);
        same("need", x.proposal(5), 1);
        x.propose(8);
        same("patience", x.proposal(2), 33);
        same("changes", x.undo(), 5);
    }

    private static void lengths() {
        String text = "players 5;need 1;";
        int[] lengths = {1, 7, 8, 9, 10, 11, 14, 15, 16, 17, 18, 20};
        int[] due = {SYNTAX, SYNTAX, SYNTAX, SYNTAX, 5, SYNTAX, SYNTAX, SYNTAX, SYNTAX, 5, 5, 5};
        int[] offsets = {0, 7, 8, 9, -1, 10, 14, 15, 16, -1, -1, -1};
        for (int i = 0; i < lengths.length; i++) {
            OneBeat x = new OneBeat();
            put(x, text);
            same("load(" + lengths[i] + ")", x.load(lengths[i]), due[i]);
            same("offset by load(" + lengths[i] + ")", x.errorOffset(), offsets[i]);
            // What lies behind is not read, be it more digits, letters, spaces or what would be due there.
            String[] behind = {"9", "s", "need", " ", ";", "1;", "#"};
            int length = Math.min(17, lengths[i]);
            for (String b : behind) {
                OneBeat y = new OneBeat();
                put(y, text.substring(0, length) + b);
                same("load(" + length + ") ahead of " + b, y.load(length), due[i]);
                same("offset by load(" + length + ") ahead of " + b, y.errorOffset(), offsets[i]);
            }
        }
    }

    private static void promise4() {
        Document.under("Promise 4");
        Document.says("Returns the offset of the error found by the latest call of load that did not throw; -1 if it "
            + "found none or if there was no such call.");
        OneBeat x = new OneBeat();
        same("no call", x.errorOffset(), -1);
        throwsJust("load(1)", ARGUMENT, () -> x.load(1));
        same("no call that did not throw", x.errorOffset(), -1);
        load(x, "");
        same("at 0", x.errorOffset(), 0);
        load(x, "players 3;need 4;");
        same("at 15", x.errorOffset(), 15);
        throwsJust("load(-1)", ARGUMENT, () -> x.load(-1));
        throwsJust("load(1)", ARGUMENT, () -> x.load(1));
        same("not by one that threw", x.errorOffset(), 15);
        load(x, " x");
        same("of the latest one", x.errorOffset(), 1);
        x.pass(1);
        x.undo();
        same("not by other calls", x.errorOffset(), 1);
        load(x, "players 3;");
        same("none", x.errorOffset(), -1);
        throwsJust("load(1)", ARGUMENT, () -> x.load(1));
        same("none still", x.errorOffset(), -1);
    }

    private static void promise5() {
        Document.under("Promise 5");
        Document.says("- `what`: 0 players, 1 the time, 2 the conductor, 3 messages on their way, 4 messages that "
            + "were sent (lost ones included), 5 lost ones, 6 proposals that were made, 7 those that were committed, "
            + "8 those that were given up, 9 different songs that players who are up play, 10 changes of all "
            + "players, 11 late ones among them, 12 the margin that a proposal of song 1 would have now (whether it "
            + "can be made or not)");
        OneBeat x = with(FAN + "margin song+up+3;patience 5;");
        states("at first", x, 4, 0, 0, 0, 0, 0, 0, 0, 0, 1, 0, 0, 8);
        x.propose(8);
        states("proposed", x, 4, 0, 0, 3, 3, 0, 1, 0, 0, 1, 0, 0, 8);
        x.pass(2);
        states("committed", x, 4, 2, 0, 5, 8, 0, 1, 1, 0, 1, 0, 0, 8);
        x.power(3, false);
        states("one down", x, 4, 2, 0, 5, 8, 0, 1, 1, 0, 1, 0, 0, 7);
        // At 3 the vote of player 2 comes, and players 1 and 3 get a commit and a propose, the one lost.
        x.pass(1);
        states("lost at who is down", x, 4, 3, 0, 2, 8, 1, 1, 1, 0, 1, 0, 0, 7);
        passes(x, 12);
        states("three changed on time", x, 4, 15, 0, 0, 8, 2, 1, 1, 0, 1, 3, 0, 7);
        x.power(3, true);
        states("two songs", x, 4, 15, 0, 0, 8, 2, 1, 1, 0, 2, 3, 0, 8);
        x.lead(3);
        x.cut(3, 0, true);
        x.propose(8);
        states("another conductor, all lost", x, 4, 15, 3, 0, 11, 5, 2, 1, 0, 2, 3, 0, 8);
        x.pass(5);
        states("given up", x, 4, 20, 3, 0, 14, 8, 2, 1, 1, 2, 3, 0, 8);
        lateOnesAndSongs();
        Document.says("Returns this number.");
        OneBeat y = with("players 8;margin 1000;");
        same("players", y.state(0), 8);
        same("margin", y.state(12), 1000);
        Document.says("Throws `IllegalArgumentException` if what is out of range");
        int[] outside = {-1, 13, MIN, MAX};
        for (int what : outside) {
            refuses("state(" + what + ")", y, ARGUMENT, () -> y.state(what));
        }
    }

    private static void lateOnesAndSongs() {
        OneBeat x = with(FAN + "margin 4;");
        x.propose(8);
        x.pass(4);
        states("three on time", x, 4, 4, 0, 1, 9, 0, 1, 1, 0, 2, 3, 0, 4);
        x.pass(1);
        states("the last one late", x, 4, 5, 0, 0, 9, 0, 1, 1, 0, 1, 4, 1, 4);
        OneBeat y = with("players 8;need 1;margin 1;");
        for (int p = 0; p < 8; p++) {
            y.lead(p);
            y.propose(p + 10);
            y.pass(1);
            same("different songs", y.state(9), Math.min(8, p + 2));
        }
        for (int p = 0; p < 8; p++) {
            y.power(p, false);
            same("different songs of who is up", y.state(9), 7 - p);
        }
        same("margin, though nothing can be proposed", y.state(12), 1);
        OneBeat w = with("players 3;");
        w.power(0, false);
        same("the song of who is up, and of who is down, too", w.state(9), 1);
        w.power(2, false);
        same("the song of the only one up", w.state(9), 1);
        OneBeat z = with(FAN + "margin song*7;");
        z.propose(3);
        same("margin of song 1, though one is open", z.state(12), 7);
    }

    private static void promise6() {
        Document.under("Promise 6");
        Document.says("- `player`: a player");
        OneBeat x = with("players 8;clock 7 70 0;clock 0 1 0;");
        same("the first one", x.player(0, 1), 1);
        same("the last one", x.player(7, 1), 70);
        Document.says("- `what`: 0 1 if up, otherwise 0, 1 what the clock shows, 2 the guess, 3 the song, 4 the "
            + "plan: 0 none, 1 not firm, 2 firm, 5 the number of the proposal of the plan (-1 if none), 6 its "
            + "changes, 7 late ones, 8 the time of the latest change (-1 if none), 9 its estimate minus what the "
            + "conductor's clock shows");
        OneBeat y = with("players 2;link 0 1 1 1;clock 0 100 0;clock 1 40 50;margin 81-song;");
        players("at first", y, 1, 1, 40, 0, 0, 0, -1, 0, 0, -1, -60);
        y.ask(1);
        y.pass(2);
        players("guess", y, 1, 1, 42, 101 + 1 - 42, 0, 0, -1, 0, 0, -1, 0);
        y.propose(77);
        y.pass(1);
        players("not firm", y, 1, 1, 43, 60, 0, 1, 0, 0, 0, -1, 0);
        y.pass(2);
        players("firm", y, 1, 1, 45, 60, 0, 2, 0, 0, 0, -1, 0);
        y.pass(1);
        players("changed", y, 1, 1, 46, 60, 77, 0, -1, 1, 0, 6, 0);
        players("the conductor", y, 0, 1, 106, 0, 77, 0, -1, 1, 0, 6, 0);
        y.pass(14);
        players("gained a tick", y, 1, 1, 61, 60, 77, 0, -1, 1, 0, 6, 1);
        y.propose(78);
        y.pass(2);
        players("not firm", y, 1, 1, 63, 60, 77, 1, 1, 1, 0, 6, 1);
        y.pass(1);
        players("late", y, 1, 1, 64, 60, 78, 0, -1, 2, 1, 23, 1);
        players("on time", y, 0, 1, 123, 0, 78, 0, -1, 2, 0, 23, 0);
        y.power(1, false);
        players("down", y, 1, 0, 64, 60, 78, 0, -1, 2, 1, 23, 1);
        y.lead(1);
        players("by the new conductor", y, 0, 1, 123, 0, 78, 0, -1, 2, 0, 23, 59);
        Document.says("Returns this.");
        same("the last what", y.player(1, 9), 0);
        Document.says("Throws `IndexOutOfBoundsException` if there is no such player");
        int[] nobody = {-1, 2, 7, 8, MIN, MAX};
        for (int p : nobody) {
            refuses("player " + p, y, INDEX, () -> y.player(p, 0));
        }
        Document.says("Throws `IllegalArgumentException` if what is out of range");
        int[] outside = {-1, 10, MIN, MAX};
        for (int what : outside) {
            refuses("what " + what, y, ARGUMENT, () -> y.player(1, what));
        }
    }

    private static void promise7() {
        Document.under("Promise 7");
        Document.says("- `from`: a player - `to`: a player");
        OneBeat x = with("players 8;link 7 0 9 1;");
        same("the last to the first one", x.link(7, 0), 9);
        same("the first to the last one", x.link(0, 7), 1);
        Document.says("Returns the delay of the link from the first to the second one, negative if it is cut; 0 if "
            + "there is none.");
        same("none", x.link(7, 1), 0);
        same("none to itself", x.link(7, 7), 0);
        x.cut(7, 0, true);
        same("cut", x.link(7, 0), -9);
        same("in one direction", x.link(0, 7), 1);
        x.cut(0, 7, true);
        same("cut", x.link(0, 7), -1);
        x.cut(7, 0, false);
        same("open", x.link(7, 0), 9);
        x.power(0, false);
        same("who is up is no matter", x.link(7, 0), 9);
        Document.says("Throws `IndexOutOfBoundsException` if there is no such player");
        OneBeat y = with("players 3;link 0 2 4 4;");
        int[] nobody = {-1, 3, 7, 8, MIN, MAX};
        for (int p : nobody) {
            refuses("from " + p, y, INDEX, () -> y.link(p, 0));
            refuses("to " + p, y, INDEX, () -> y.link(2, p));
            refuses("both " + p, y, INDEX, () -> y.link(p, p));
        }
    }

    private static void promise8() {
        Document.under("Promise 8");
        Document.says("- `k`: a place among the messages on their way, from 0, by the times at which they arrive, of "
            + "several by their numbers");
        OneBeat x = with("players 8;link 0 1 9 9;link 0 2 1 9;link 0 3 5 9;link 0 4 5 9;link 0 5 8 9;link 0 6 1 9;"
            + "link 0 7 2 9;");
        x.propose(1);
        messages("by times and numbers", x, row(2, 0, 2, 1, 1, 0), row(2, 0, 6, 1, 5, 0), row(2, 0, 7, 2, 6, 0),
            row(2, 0, 3, 5, 2, 0), row(2, 0, 4, 5, 3, 0), row(2, 0, 5, 8, 4, 0), row(2, 0, 1, 9, 0, 0));
        x.pass(1);
        messages("two have arrived", x, row(2, 0, 7, 2, 6, 0), row(2, 0, 3, 5, 2, 0), row(2, 0, 4, 5, 3, 0),
            row(2, 0, 5, 8, 4, 0), row(2, 0, 1, 9, 0, 0), row(3, 2, 0, 10, 7, 0), row(3, 6, 0, 10, 8, 0));
        // Of one time: a later number over a shorter way.
        OneBeat y = with("players 3;link 0 1 1 4;link 0 2 1 2;");
        y.ask(1);
        y.pass(2);
        y.ask(2);
        messages("of one time", y, row(0, 1, 0, 4, 0, -1), row(0, 2, 0, 4, 1, -1));
        Document.says("- `what`: 0 its kind, 1 who sent it, 2 to whom, 3 the time at which it arrives, 4 its number, "
            + "5 the number of its proposal (-1 of an ask or a tell)");
        OneBeat z = with("players 3;link 2 1 4 9;need 1;");
        z.lead(2);
        z.pass(5);
        z.propose(1);
        z.propose(2);
        z.ask(1);
        messages("each of them", z, row(2, 2, 1, 9, 1, 0), row(4, 2, 1, 9, 3, 0), row(2, 2, 1, 9, 5, 1),
            row(4, 2, 1, 9, 7, 1), row(0, 1, 2, 14, 8, -1));
        z.pass(9);
        messages("votes and a tell", z, row(3, 1, 2, 18, 9, 0), row(3, 1, 2, 18, 10, 1), row(1, 2, 1, 18, 11, -1));
        Document.says("Returns this.");
        same("the last one", z.message(2, 4), 11);
        Document.says("Throws `NoSuchElementException` if there is no such message");
        int[] places = {-1, 3, MIN, MAX};
        for (int k : places) {
            refuses("place " + k, z, ELEMENT, () -> z.message(k, 0));
        }
        z.pass(4);
        refuses("none is on its way", z, ELEMENT, () -> z.message(0, 0));
        Document.says("Throws `IllegalArgumentException` if what is out of range");
        z.propose(1);
        int[] outside = {-1, 6, MIN, MAX};
        for (int what : outside) {
            refuses("what " + what, z, ARGUMENT, () -> z.message(0, what));
        }
    }

    private static void promise9() {
        Document.under("Promise 9");
        Document.says("Tells the latest proposal.");
        OneBeat x = with(FAN + "clock 0 -30 0;patience 20;");
        x.pass(3);
        x.propose(5);
        proposals("of one", x, 5, -20, 23, 0, 1, 0);
        x.pass(2);
        x.lead(1);
        x.propose(6);
        proposals("of two", x, 6, 12, 25, 1, 1, 0);
        Document.says("- `what`: 0 its song, 1 its beat, 2 its deadline, 3 its sender, 4 its votes, 5 0 if it is "
            + "open, 1 if it was committed, 2 if it was given up");
        x.pass(1);
        proposals("open", x, 6, 12, 25, 1, 1, 0);
        x.pass(1);
        proposals("committed", x, 6, 12, 25, 1, 2, 1);
        x.cut(1, 0, true);
        x.propose(0);
        x.pass(19);
        proposals("a tick ahead of its deadline", x, 0, 14, 27, 1, 1, 0);
        x.pass(1);
        proposals("given up", x, 0, 14, 27, 1, 1, 2);
        Document.says("Returns this.");
        same("the last what", x.proposal(5), 2);
        Document.says("Throws `NoSuchElementException` if there was no proposal");
        OneBeat y = with(PAIR);
        refuses("none", y, ELEMENT, () -> y.proposal(0));
        y.propose(1);
        same("one", y.proposal(0), 1);
        y.undo();
        refuses("it is undone", y, ELEMENT, () -> y.proposal(0));
        y.propose(1);
        load(y, PAIR);
        refuses("none since the load", y, ELEMENT, () -> y.proposal(5));
        Document.says("Throws `IllegalArgumentException` if what is out of range");
        int[] outside = {-1, 6, MIN, MAX};
        for (int what : outside) {
            refuses("what " + what, x, ARGUMENT, () -> x.proposal(what));
        }
    }

    private static void promise10() {
        Document.under("Promise 10");
        Document.says("Returns the time of the last change by the latest proposal minus that of the first one; -1 if "
            + "nobody changed by it, or there was no proposal.");
        OneBeat x = with("players 3;link 0 1 1 1;link 0 2 9 1;need 2;margin 2;");
        same("no proposal", x.spread(), -1);
        x.propose(1);
        x.pass(1);
        same("nobody", x.spread(), -1);
        x.pass(1);
        same("the first one", x.spread(), 0);
        x.pass(1);
        same("the second one", x.spread(), 1);
        x.pass(7);
        same("the third one not yet", x.spread(), 1);
        x.pass(1);
        same("the third one", x.spread(), 9);
        x.pass(50);
        same("it stays", x.spread(), 9);
        x.propose(2);
        same("nobody by the latest one", x.spread(), -1);
        x.undo();
        same("undone", x.spread(), 9);
        load(x, "players 1;");
        same("no proposal since the load", x.spread(), -1);
        // Player 1 changes by proposal 0 at 9, after player 0 has by proposal 1 at 4.
        OneBeat y = with("players 2;link 0 1 9 9;need 1;margin 1;");
        y.propose(1);
        y.pass(3);
        y.cut(0, 1, true);
        y.propose(2);
        y.pass(9);
        same("changes", y.state(10), 3);
        same("a change by an older one does not count", y.spread(), 0);
        OneBeat w = with("players 2;link 0 1 1 1;margin 2;patience 3;");
        w.cut(0, 1, true);
        w.propose(1);
        w.pass(3);
        same("nobody by the first one", w.spread(), -1);
        w.cut(0, 1, false);
        w.propose(1);
        w.pass(3);
        same("two by the second one", w.spread(), 1);
        OneBeat z = with("players 2;link 0 1 1 1;margin 2;");
        z.propose(1);
        z.pass(4);
        z.cut(1, 0, true);
        z.propose(1);
        z.pass(50);
        same("given up", z.spread(), -1);
    }

    private static void promise11() {
        Document.under("Promise 11");
        Document.says("Foretells what comes if only time passes: at most 400 ticks, and as long as (asked ahead of "
            + "each tick) there are messages on their way, an open proposal, or a firm plan of a player who is up.");
        int[] beats = {1, 2, 398, 399, 400, 401, 402, 1000};
        for (int beat : beats) {
            OneBeat x = with("players 1;margin " + beat + ";");
            x.propose(1);
            foretells("beat " + beat, x, Math.min(400, beat), 1, beat <= 400 ? 0 : -1, 1, 0);
            same("the time stays", x.state(1), 0);
        }
        OneBeat x = with("players 2;link 0 1 7 8;");
        foretells("nothing comes", x, 0, -1, -1, 1, 0);
        x.ask(1);
        foretells("an ask and a tell", x, 15, -1, -1, 1, 0);
        x.pass(14);
        foretells("a tell", x, 1, -1, -1, 1, 0);
        x.pass(1);
        foretells("nothing comes any more", x, 0, -1, -1, 1, 0);
        int[] patience = {1, 2, 199, 200};
        for (int p : patience) {
            OneBeat y = with("players 2;patience " + p + ";");
            y.propose(1);
            foretells("an open proposal", y, p, 2, -1, 1, 0);
        }
        OneBeat y = with("players 2;link 0 1 1 1;patience 9;");
        y.cut(1, 0, true);
        y.propose(1);
        foretells("a plan that is not firm", y, 10, 2, -1, 1, 0);
        OneBeat z = with("players 2;link 0 1 1 1;need 1;margin 50;");
        z.propose(1);
        z.pass(5);
        foretells("firm plans", z, 45, 1, 0, 1, 0);
        z.power(0, false);
        foretells("a firm plan of who is up", z, 45, 1, 0, 1, 0);
        z.power(1, false);
        foretells("nobody is up", z, 0, 1, -1, 0, 0);
        whatIsForetold();
        Document.says("Throws `IllegalArgumentException` if what is out of range");
        int[] outside = {-1, 5, MIN, MAX};
        for (int what : outside) {
            refuses("what " + what, z, ARGUMENT, () -> z.foretold(what));
        }
    }

    private static void whatIsForetold() {
        Document.says("- `what`: 0 the ticks that pass, 1 what proposal(5) tells then (-1 without a proposal), 2 "
            + "what spread() tells then, 3 what state(9) tells then, 4 late changes that come");
        OneBeat x = with(FAN + "margin 4;");
        x.propose(5);
        x.power(3, false);
        foretells("one is down", x, 5, 1, 0, 1, 0);
        x.undo();
        foretells("the last one late", x, 5, 1, 1, 1, 1);
        x.pass(2);
        x.power(2, false);
        x.power(2, true);
        x.cut(0, 2, true);
        foretells("commits on their way all the same", x, 3, 1, 1, 1, 1);
        x.undo();
        x.undo();
        x.undo();
        x.undo();
        x.cut(0, 2, true);
        foretells("no commit to player 2", x, 5, 1, 1, 2, 1);
        x.pass(5);
        same("late already", x.state(11), 1);
        foretells("none comes", x, 0, 1, 1, 2, 0);
        x.propose(6);
        foretells("those that come, not those that came", x, 5, 1, 1, 2, 1);
        OneBeat y = with(PAIR + "patience 4;");
        y.propose(5);
        foretells("given up", y, 6, 2, -1, 1, 0);
        Document.says("Returns this.");
        long before = y.checksum();
        foretells("twice the same", y, 6, 2, -1, 1, 0);
        same("nothing changes", y.checksum(), before);
        y.pass(6);
        same("as foretold", y.proposal(5), 2);
        same("as foretold", y.state(3), 0);
    }

    private static void promise12() {
        Document.under("Promise 12");
        Document.says("Finds a safe margin: if the conductor proposed song 1 now, with this margin in place of that "
            + "of the expression, and only time passed as told of foretold, the proposal would be committed, and no "
            + "change (by an older plan, too) would be late.");
        OneBeat x = with(FAN + "margin 900;clock 0 700 0;clock 1 700 0;clock 2 700 0;clock 3 699 0;");
        same("the last commit comes at 5, a tick before it is 5 there", x.safest(), 4);
        x.propose(3);
        x.undo();
        load(x, FAN + "margin 4;");
        same("as the last commit", x.safest(), 5);
        x.pass(1);
        same("now is another time", x.safest(), 5);
        x.power(3, false);
        same("who is down does not matter", x.safest(), 4);
        x.cut(0, 2, true);
        same("nor who is not reached", x.safest(), 3);
        x.cut(0, 1, true);
        same("never committed", x.safest(), -1);
        committedInTime();
        olderPlans();
        Document.says("Returns the least such margin from 1 to 60; -1 if there is none, or nothing can be proposed "
            + "now.");
        same("1", new OneBeat().safest(), 1);
        same("1", with("players 8;need 1;").safest(), 1);
        // The clock shows 19 at 19 and at 20, so that not even a beat of 19 would be late.
        OneBeat slow = with("players 1;clock 0 0 -50;");
        slow.pass(19);
        same("not 0", slow.safest(), 1);
        int[] offsets = {-1, 0, 1, 57, 58, 59, 60, 998};
        int[] least = {1, 1, 2, 58, 59, 60, -1, -1};
        for (int i = 0; i < offsets.length; i++) {
            OneBeat y = with("players 2;link 0 1 1 1;need 1;clock 1 " + offsets[i] + " 0;");
            same("offset " + offsets[i], y.safest(), least[i]);
        }
        OneBeat y = with(PAIR + "patience 9;");
        same("it can be proposed", y.safest(), 7);
        y.propose(1);
        same("one is open", y.safest(), -1);
        y.pass(4);
        same("one is open still", y.safest(), -1);
        y.pass(1);
        same("it is committed, for the beat 5, and the commit comes at 7", y.safest(), 7);
        y.power(0, false);
        same("the conductor is down", y.safest(), -1);
        y.lead(1);
        same("another conductor, who is up, without a vote", y.safest(), -1);
        OneBeat z = with(PAIR + "need 1;");
        same("one vote is enough", z.safest(), 2);
        z.power(0, false);
        same("one would be enough, but the conductor is down", z.safest(), -1);
        z.lead(1);
        same("another conductor, who is up, with one vote", z.safest(), 1);
    }

    private static void committedInTime() {
        for (int p = 9; p <= 12; p++) {
            OneBeat x = with("players 2;link 0 1 2 9;patience " + p + ";");
            same("patience " + p, x.safest(), p < 11 ? -1 : 13);
        }
        // The clock of the conductor gains a tick at 20 and at 40, which is late for the beat between.
        OneBeat y = with("players 1;clock 0 0 50;");
        y.pass(19);
        same("no beat of 20", y.safest(), 2);
        same("a proposal for 20", with("players 1;clock 0 0 50;margin 1;").safest(), 1);
        long before = y.checksum();
        y.safest();
        same("nothing changes", y.checksum(), before);
        y.propose(1);
        y.pass(1);
        same("late, as the usual margin of 1 is not safe", y.state(11), 1);
    }

    private static void olderPlans() {
        // Player 1 gets the commit of proposal 0 at 9, late for its beat, and nothing of the next one.
        OneBeat x = with("players 2;link 0 1 9 9;need 1;margin 8;");
        x.propose(4);
        x.cut(0, 1, true);
        same("late by an older plan", x.safest(), -1);
        OneBeat y = with("players 2;link 0 1 9 9;need 1;margin 9;");
        y.propose(4);
        y.cut(0, 1, true);
        same("on time by an older plan", y.safest(), 1);
        y.pass(9);
        same("nothing comes any more", y.safest(), 1);
        // What was late before does not matter.
        OneBeat z = with("players 2;link 0 1 9 9;need 1;margin 8;");
        z.propose(4);
        z.pass(9);
        same("late", z.state(11), 1);
        same("late before", z.safest(), 9);
    }

    private static void promise13() {
        Document.under("Promise 13");
        Document.says("Returns the sum of the absolute values of player(int, 9) over all players who are up, and "
            + "their number, both converted to double and divided; 0.0 if nobody is up.");
        sameDouble("one", new OneBeat().meanError(), 0.0);
        OneBeat x = with("players 4;clock 1 -5 0;clock 2 8 0;link 0 2 1 1;");
        sameDouble("of all", x.meanError(), 13.0 / 4.0);
        x.power(3, false);
        sameDouble("a third", x.meanError(), 13.0 / 3.0);
        x.power(2, false);
        sameDouble("of two", x.meanError(), 2.5);
        x.lead(1);
        sameDouble("by another conductor", x.meanError(), 2.5);
        x.power(1, false);
        sameDouble("who is down", x.meanError(), 5.0);
        x.power(0, false);
        sameDouble("nobody", x.meanError(), 0.0);
        x.power(2, true);
        sameDouble("one again", x.meanError(), 13.0);
        OneBeat y = with("players 8;clock 0 -999 0;clock 1 999 0;clock 2 999 0;clock 3 999 0;clock 4 999 0;clock 5 999 0;"
            + "clock 6 999 0;clock 7 998 0;");
        sameDouble("the most", y.meanError(), (6 * 1998 + 1997) / 8.0);
        OneBeat z = with("players 2;clock 1 -30 0;link 0 1 1 1;");
        z.ask(1);
        sameDouble("without a guess", z.meanError(), 15.0);
        z.pass(2);
        sameDouble("with a guess", z.meanError(), 0.0);
    }

    private static void promise14() {
        Document.under("Promise 14");
        Document.says("Lets the conductor propose a song.");
        OneBeat x = with(FAN + "clock 0 -20 0;clock 3 30 0;margin song+4;");
        x.propose(9);
        proposals("by player 0", x, 9, -7, 50, 0, 1, 0);
        Document.says("- `song`: 0 to 99");
        int[] songs = {0, 1, 98, 99};
        for (int song : songs) {
            OneBeat y = with("players 1;margin 1;");
            y.propose(song);
            y.pass(1);
            same("song", y.player(0, 3), song);
        }
        Document.says("Returns the beat.");
        OneBeat y = with(FAN + "clock 0 -20 0;clock 3 30 0;margin song+4;");
        y.pass(2);
        y.lead(3);
        same("beat", y.propose(99), 2 + 30 + 103);
        same("the same", y.proposal(1), 135);
        OneBeat z = with("players 1;clock 0 -999 0;margin 1;");
        same("a beat below 0", z.propose(0), -998);
        Document.says("Throws `IllegalArgumentException` if song is out of range");
        OneBeat w = with(FAN);
        int[] outside = {-1, 100, MIN, MAX};
        for (int song : outside) {
            refuses("song " + song, w, ARGUMENT, () -> w.propose(song));
        }
        Document.says("Throws `IllegalStateException` if the conductor is down, or a proposal is open");
        w.power(0, false);
        refuses("down", w, STATE, () -> w.propose(0));
        w.power(0, true);
        w.power(1, false);
        same("another one is down", w.propose(0), 7);
        refuses("open", w, STATE, () -> w.propose(0));
        w.power(0, false);
        refuses("both", w, STATE, () -> w.propose(0));
        w.lead(2);
        refuses("open, by another one", w, STATE, () -> w.propose(0));
        w.pass(50);
        same("given up", w.propose(0), 57);
    }

    private static void promise15() {
        Document.under("Promise 15");
        Document.says("Lets a player ask the conductor for the time.");
        OneBeat x = with("players 8;link 7 0 3 3;link 7 6 2 2;");
        x.ask(7);
        messages("asked", x, row(0, 7, 0, 3, 0, -1));
        Document.says("- `player`: a player");
        x.lead(7);
        same("the first one", x.ask(0), true);
        same("the last but one", x.ask(6), true);
        Document.says("Returns whether the ask is on its way (not lost).");
        states("on their way", x, 8, 0, 7, 3, 3, 0);
        same("no link", x.ask(5), false);
        x.cut(6, 7, true);
        same("cut", x.ask(6), false);
        states("lost", x, 8, 0, 7, 3, 5, 2);
        x.cut(7, 6, true);
        x.cut(6, 7, false);
        same("only the way back is cut", x.ask(6), true);
        x.power(7, false);
        same("the conductor is down", x.ask(0), true);
        Document.says("Throws `IndexOutOfBoundsException` if there is no such player");
        OneBeat y = with("players 3;link 0 1 1 1;");
        int[] nobody = {-1, 3, 7, 8, MIN, MAX};
        for (int p : nobody) {
            refuses("player " + p, y, INDEX, () -> y.ask(p));
        }
        Document.says("Throws `IllegalStateException` if the player is down, or the conductor");
        y.power(1, false);
        refuses("down", y, STATE, () -> y.ask(1));
        refuses("the conductor", y, STATE, () -> y.ask(0));
        y.power(0, false);
        refuses("both", y, STATE, () -> y.ask(0));
        y.power(1, true);
        same("up", y.ask(1), true);
        y.lead(1);
        refuses("conductor now", y, STATE, () -> y.ask(1));
        refuses("down still", y, STATE, () -> y.ask(0));
    }

    private static void promise16() {
        Document.under("Promise 16");
        Document.says("Lets time pass.");
        OneBeat x = new OneBeat();
        x.pass(1);
        same("a tick", x.state(1), 1);
        Document.says("- `ticks`: 1 to 50");
        int[] ticks = {1, 2, 49, 50};
        int sum = 1;
        for (int t : ticks) {
            x.pass(t);
            sum += t;
            same("time", x.state(1), sum);
        }
        OneBeat one = with(FAN);
        OneBeat other = with(FAN);
        one.propose(1);
        other.propose(1);
        one.pass(50);
        for (int i = 0; i < 50; i++) {
            other.pass(1);
        }
        same("50 at once or one by one", one.checksum(), other.checksum());
        Document.says("Returns the number of changes of players in it.");
        OneBeat y = with(FAN + "margin 4;");
        y.propose(9);
        same("none", y.pass(3), 0);
        same("three in a tick", y.pass(1), 3);
        same("one more", y.pass(1), 1);
        same("no more", y.pass(50), 0);
        OneBeat z = with("players 1;margin 1;");
        z.propose(9);
        same("one of the first tick", z.pass(50), 1);
        OneBeat w = with(FAN + "margin 50;");
        w.propose(9);
        same("one ahead of the beat", w.pass(49), 0);
        w.undo();
        same("all in the last tick", w.pass(50), 4);
        OneBeat v = with("players 2;link 0 1 9 9;need 1;margin 3;");
        v.propose(1);
        v.pass(1);
        v.propose(2);
        same("by two proposals, one player by the one before", v.pass(50), 3);
        Document.says("Throws `IllegalArgumentException` if ticks is out of range");
        int[] outside = {0, -1, 51, MIN, MAX};
        for (int t : outside) {
            refuses("ticks " + t, x, ARGUMENT, () -> x.pass(t));
        }
    }

    private static void promise17() {
        Document.under("Promise 17");
        Document.says("Sets whether a player is up.");
        OneBeat x = with("players 8;");
        x.power(7, false);
        same("down", x.player(7, 0), 0);
        same("another one", x.player(6, 0), 1);
        x.power(7, false);
        same("down still", x.player(7, 0), 0);
        x.power(7, true);
        same("up", x.player(7, 0), 1);
        Document.says("Who goes down keeps guess and song, but drops the plan.");
        goingDown();
        Document.says("- `player`: a player");
        OneBeat w = with("players 8;");
        for (int p = 0; p < 8; p++) {
            w.power(p, false);
            same("down", w.player(p, 0), 0);
        }
        Document.says("- `isUp`: whether the player is to be up");
        w.power(3, true);
        same("up", w.player(3, 0), 1);
        Document.says("Returns whether the player was up.");
        same("was up", w.power(3, true), true);
        same("was up", w.power(3, false), true);
        same("was down", w.power(3, false), false);
        same("was down", w.power(3, true), false);
        Document.says("Throws `IndexOutOfBoundsException` if there is no such player");
        OneBeat v = with("players 3;");
        int[] nobody = {-1, 3, 7, 8, MIN, MAX};
        for (int p : nobody) {
            refuses("down of " + p, v, INDEX, () -> v.power(p, false));
            refuses("up of " + p, v, INDEX, () -> v.power(p, true));
        }
    }

    private static void goingDown() {
        OneBeat y = with("players 2;link 0 1 1 1;clock 1 5 0;margin 3;");
        y.ask(1);
        y.pass(2);
        y.propose(8);
        y.pass(3);
        y.propose(9);
        y.pass(1);
        players("a loose plan", y, 1, 1, 11, -5, 8, 1, 1, 1, 0, 5, 0);
        y.power(1, false);
        players("down", y, 1, 0, 11, -5, 8, 0, -1, 1, 0, 5, 0);
        y.power(1, true);
        players("up without it", y, 1, 1, 11, -5, 8, 0, -1, 1, 0, 5, 0);
        y.undo();
        y.undo();
        y.power(1, true);
        players("who stays up keeps it", y, 1, 1, 11, -5, 8, 1, 1, 1, 0, 5, 0);
        OneBeat z = with("players 2;link 0 1 1 1;need 1;margin 9;");
        z.propose(8);
        z.pass(1);
        same("a firm plan", z.player(1, 4), 2);
        z.power(1, true);
        same("kept by who stays up", z.player(1, 4), 2);
        z.power(1, false);
        players("dropped", z, 1, 0, 1, 0, 0, 0, -1);
        z.power(1, true);
        same("one changes", z.pass(50), 1);
        same("the proposal stays", z.proposal(5), 1);
    }

    private static void promise18() {
        Document.under("Promise 18");
        Document.says("Cuts or opens a link (in this direction alone).");
        OneBeat x = with("players 8;link 7 0 4 5;link 7 6 2 3;");
        x.cut(7, 0, true);
        same("cut", x.link(7, 0), -4);
        same("not the other direction", x.link(0, 7), 5);
        same("not another one", x.link(7, 6), 2);
        same("not another one", x.link(6, 7), 3);
        x.cut(7, 0, false);
        same("open", x.link(7, 0), 4);
        Document.says("- `from`: a player - `to`: a player - `isCut`: whether it is to be cut");
        x.cut(6, 7, true);
        x.cut(0, 7, true);
        same("cut", x.link(6, 7), -3);
        same("cut", x.link(0, 7), -5);
        same("open", x.link(7, 0), 4);
        same("open", x.link(7, 6), 2);
        Document.says("Returns whether it was cut.");
        same("was open", x.cut(7, 0, false), false);
        same("was open", x.cut(7, 0, true), false);
        same("was cut", x.cut(7, 0, true), true);
        same("was cut", x.cut(7, 0, false), true);
        Document.says("Throws `IndexOutOfBoundsException` if there is no such player");
        OneBeat y = with("players 3;link 0 1 1 1;");
        int[] nobody = {-1, 3, 7, 8, MIN, MAX};
        for (int p : nobody) {
            refuses("from " + p, y, INDEX, () -> y.cut(p, 0, true));
            refuses("to " + p, y, INDEX, () -> y.cut(0, p, false));
            refuses("both " + p, y, INDEX, () -> y.cut(p, p, true));
        }
        Document.says("Throws `IllegalStateException` if there is no such link");
        for (int a = 0; a < 3; a++) {
            for (int b = 0; b < 3; b++) {
                int from = a;
                int to = b;
                if (a + b == 1) {
                    same("a link", y.cut(a, b, true), false);
                    same("a link that is cut", y.cut(a, b, true), true);
                } else {
                    refuses("cut " + a + " " + b, y, STATE, () -> y.cut(from, to, true));
                    refuses("open " + a + " " + b, y, STATE, () -> y.cut(from, to, false));
                }
            }
        }
    }

    private static void promise19() {
        Document.under("Promise 19");
        Document.says("Makes a player the conductor; all guesses become 0.");
        OneBeat x = with("players 3;link 0 1 1 1;link 0 2 1 1;clock 1 10 0;clock 2 20 0;");
        x.ask(1);
        x.ask(2);
        x.pass(2);
        same("guess", x.player(1, 2), -10);
        same("guess", x.player(2, 2), -20);
        x.lead(1);
        same("conductor", x.state(2), 1);
        same("guess of the conductor", x.player(1, 2), 0);
        same("guess of another one", x.player(2, 2), 0);
        x.undo();
        same("undone", x.player(2, 2), -20);
        x.lead(0);
        same("guess, though the same one leads", x.player(1, 2), 0);
        same("guess, though the same one leads", x.player(2, 2), 0);
        guessesOfAll();
        Document.says("(An open proposal stays with its sender.)");
        OneBeat y = with(PAIR + "patience 5;");
        y.propose(1);
        y.lead(1);
        same("sender", y.proposal(3), 0);
        refuses("it is open", y, STATE, () -> y.propose(2));
        y.pass(5);
        proposals("committed", y, 1, 7, 5, 0, 2, 1);
        same("by its sender", y.message(0, 1), 0);
        OneBeat z = with(PAIR + "patience 4;");
        z.propose(1);
        z.lead(1);
        z.pass(4);
        same("given up", z.proposal(5), 2);
        messages("by its sender", z, row(3, 1, 0, 5, 1, 0), row(5, 0, 1, 6, 2, 0));
        Document.says("- `player`: a player");
        OneBeat w = with("players 8;");
        w.power(7, false);
        same("the last one, who is down", w.lead(7), 0);
        same("conductor", w.state(2), 7);
        Document.says("Returns the previous conductor.");
        same("previous", w.lead(7), 7);
        same("previous", w.lead(0), 7);
        same("previous", w.lead(3), 0);
        Document.says("Throws `IndexOutOfBoundsException` if there is no such player");
        int[] nobody = {-1, 3, 7, 8, MIN, MAX};
        for (int p : nobody) {
            refuses("player " + p, x, INDEX, () -> x.lead(p));
        }
    }

    private static void guessesOfAll() {
        String star = "players 8;link 3 0 1 1;link 3 1 1 1;link 3 2 1 1;link 3 4 1 1;link 3 5 1 1;link 3 6 1 1;"
            + "link 3 7 1 1;clock 3 50 0;";
        for (int next = 0; next < 8; next++) {
            OneBeat x = with(star);
            x.lead(3);
            for (int p = 0; p < 8; p++) {
                if (p != 3) {
                    x.ask(p);
                }
            }
            x.pass(2);
            for (int p = 0; p < 8; p++) {
                same("guess of " + p, x.player(p, 2), p == 3 ? 0 : 50);
            }
            x.lead(next);
            for (int p = 0; p < 8; p++) {
                same("guess of " + p + " when " + next + " leads", x.player(p, 2), 0);
            }
        }
    }

    private static void promise20() {
        Document.under("Promise 20");
        Document.says("Undoes the latest change that is not final and has not been undone.");
        OneBeat x = with(FAN);
        int count = 8;
        long[] before = new long[count];
        for (int i = 0; i < count; i++) {
            before[i] = x.checksum();
            change(x, i);
            holds("change " + i + " shows", x.checksum() != before[i]);
        }
        for (int i = count - 1; i >= 0; i--) {
            same("undo of change " + i, x.undo(), i);
            same("as before change " + i, x.checksum(), before[i]);
        }
        same("the first load is final", x.undo(), -1);
        same("players", x.state(0), 4);
        undonePlansAndMessages();
        Document.says("The input buffer and the error offset are not affected.");
        OneBeat y = new OneBeat();
        y.pass(1);
        load(y, "players 0;");
        y.append(0x706c6179, 0x65727320, 0x373b2020, 0x20202020, 0x20202020);
        same("undo", y.undo(), 0);
        same("error offset", y.errorOffset(), 8);
        same("buffer", y.load(10), 7);
        same("error offset", y.errorOffset(), -1);
        same("undo of the load", y.undo(), 0);
        same("error offset", y.errorOffset(), -1);
        refuses("the buffer is empty still", y, ARGUMENT, () -> y.load(1));
        Document.says("Returns the number of changes that can still be undone; -1 if there was none to undo, and "
            + "nothing changes then.");
        OneBeat z = new OneBeat();
        long fresh = z.checksum();
        same("none", z.undo(), -1);
        same("nothing changes", z.checksum(), fresh);
        for (int n = 1; n <= 9; n++) {
            z.pass(n);
            same("one", z.undo(), Math.min(n - 1, 7));
            z.pass(n);
        }
        for (int left = 7; left >= 0; left--) {
            same("left", z.undo(), left);
        }
        same("the first one is final", z.state(1), 1);
        long last = z.checksum();
        same("none any more", z.undo(), -1);
        same("nothing changes", z.checksum(), last);
        z.pass(5);
        same("one again", z.undo(), 0);
    }

    private static void undonePlansAndMessages() {
        OneBeat x = with("players 2;link 0 1 1 1;need 1;margin 9;");
        x.propose(33);
        x.pass(1);
        x.propose(44);
        x.pass(1);
        x.undo();
        x.undo();
        x.pass(8);
        players("the plan that was replaced", x, 0, 1, 9, 0, 33, 0, -1, 1, 0, 9);
        players("the plan that was replaced", x, 1, 1, 9, 0, 33, 0, -1, 1, 0, 9);
        // A message that arrives at each time from 1 to 40, and is on its way again after it has arrived.
        for (int time = 1; time <= 40; time++) {
            OneBeat y = with("players 2;link 0 1 1 1;");
            passes(y, time - 1);
            y.ask(1);
            y.pass(2);
            same("handled", y.state(3), 0);
            y.undo();
            messages("back on its way", y, row(0, 1, 0, time, 0, -1));
            y.undo();
            same("not sent", y.state(3), 0);
        }
    }

    /** Of each kind, each of which shows in the checksum. */
    private static void change(OneBeat x, int i) {
        switch (i) {
            case 0:
                x.ask(3);
                break;
            case 1:
                x.propose(3);
                break;
            case 2:
                x.pass(50);
                break;
            case 3:
                x.cut(0, 3, true);
                x.state(0);
                x.state(12);
                break;
            case 4:
                x.power(3, false);
                break;
            case 5:
                x.lead(1);
                break;
            case 6:
                load(x, "players 3;clock 1 4 0;margin 5;");
                break;
            default:
                load(x, "players 3;clock 1 4 0;margin 6;");
                break;
        }
    }

    private static void promise21() {
        Document.under("Promise 21");
        Document.says("Computes a checksum. It starts at 0; each number n in the following order replaces it by 31 * "
            + "checksum + n, wrapping around on overflow of a long: state(0) to state(12); for each player what "
            + "player(int, int) tells for 0 to 9; for each message on its way, by the places of message(int, int), "
            + "what that tells for 0 to 5; if there was a proposal what proposal(int) tells for 0 to 5, and spread().");
        OneBeat x = new OneBeat();
        same("new", x.checksum(), sum(x));
        load(x, "players 8;link 0 1 3 2;link 0 2 1 4;clock 1 -999 50;need 2;margin 7;");
        same("without a proposal, so without spread() too", x.checksum(), sum(x));
        x.ask(1);
        same("a message", x.checksum(), sum(x));
        x.propose(5);
        same("a proposal by which nobody changed", x.checksum(), sum(x));
        x.pass(5);
        same("messages", x.checksum(), sum(x));
        for (int i = 0; i < 6; i++) {
            x.pass(1);
            same("after tick " + i, x.checksum(), sum(x));
        }
        same("a spread", x.spread() > 0, true);
        x.power(4, false);
        x.lead(2);
        same("down, and another conductor", x.checksum(), sum(x));
        Document.says("Returns the checksum.");
        same("twice the same", x.checksum(), x.checksum());
    }

    /** Without wrapping around at all until the end. */
    private static long sum(OneBeat x) {
        BigInteger c = BigInteger.ZERO;
        for (int what = 0; what <= 12; what++) {
            c = next(c, x.state(what));
        }
        for (int p = 0; p < x.state(0); p++) {
            for (int what = 0; what <= 9; what++) {
                c = next(c, x.player(p, what));
            }
        }
        for (int k = 0; k < x.state(3); k++) {
            for (int what = 0; what <= 5; what++) {
                c = next(c, x.message(k, what));
            }
        }
        if (x.state(6) > 0) {
            for (int what = 0; what <= 5; what++) {
                c = next(c, x.proposal(what));
            }
            c = next(c, x.spread());
        }
        return c.longValue();
    }

    private static BigInteger next(BigInteger c, int n) {
        return c.multiply(BigInteger.valueOf(31)).add(BigInteger.valueOf(n));
    }
}
