import java.util.Arrays;
import java.util.NoSuchElementException;

/** A change of songs at one beat, as the document tells it. */
public final class OneBeat {
    public static final int SYNTAX_ERROR = -2;
    public static final int OUT_OF_RANGE = -3;
    public static final int REPEATED = -4;
    public static final int TOO_DEEP = -5;

    private static final int MOST_UNDOS = 8;
    private static final int MOST_SAFEST = 60;

    private final Reader reader = new Reader();
    private final World now = new World();
    // foretold and safest let time pass here, so that the present stays as it is.
    private final World trial = new World();
    private final World[] past = new World[MOST_UNDOS];
    private int newest;
    private int undoable;
    private int errorAt = -1;

    public OneBeat() {
        for (int i = 0; i < past.length; i++) {
            past[i] = new World();
        }
    }

    public int append(int w0, int w1, int w2, int w3, int w4) {
        if (!reader.hasRoomFor(20)) {
            return -1;
        }
        reader.store(w0);
        reader.store(w1);
        reader.store(w2);
        reader.store(w3);
        reader.store(w4);
        return reader.stored;
    }

    public int load(int length) throws IllegalArgumentException {
        if (length < 0 || length > reader.stored) {
            throw new IllegalArgumentException("length is 0 to the length of the buffer");
        }
        Setup setup = reader.read(length);
        errorAt = reader.errorStart;
        if (setup == null) {
            return reader.errorCode;
        }
        keepForUndo();
        now.begin(setup);
        return setup.players;
    }

    public int errorOffset() {
        return errorAt;
    }

    public int state(int what) throws IllegalArgumentException {
        refuseWhatOutside(what, 12);
        return now.count(what);
    }

    public int player(int player, int what) throws IndexOutOfBoundsException, IllegalArgumentException {
        refuseNoPlayer(player);
        refuseWhatOutside(what, 9);
        return now.tellPlayer(player, what);
    }

    public int link(int from, int to) throws IndexOutOfBoundsException {
        refuseNoPlayer(from);
        refuseNoPlayer(to);
        return now.isCut(from, to) ? -now.delay(from, to) : now.delay(from, to);
    }

    public int message(int k, int what) throws NoSuchElementException, IllegalArgumentException {
        if (k < 0 || k >= now.mail.total) {
            throw new NoSuchElementException("no such message is on its way");
        }
        refuseWhatOutside(what, 5);
        return now.tellMessage(k, what);
    }

    public int proposal(int what) throws NoSuchElementException, IllegalArgumentException {
        if (now.made == 0) {
            throw new NoSuchElementException("there was no proposal");
        }
        refuseWhatOutside(what, 5);
        return now.latest.tell(what);
    }

    public int spread() {
        return now.latest.spreadOfChanges();
    }

    public int foretold(int what) throws IllegalArgumentException {
        refuseWhatOutside(what, 4);
        trial.copyFrom(now);
        int ticks = trial.runOn(false);
        switch (what) {
            case 0:
                return ticks;
            case 1:
                return trial.made == 0 ? -1 : trial.latest.outcome;
            case 2:
                return trial.latest.spreadOfChanges();
            case 3:
                return trial.countSongs();
            default:
                return trial.late - now.late;
        }
    }

    public int safest() {
        if (!now.canPropose()) {
            return -1;
        }
        for (int margin = 1; margin <= MOST_SAFEST; margin++) {
            trial.copyFrom(now);
            trial.startProposal(1, margin);
            trial.runOn(true);
            if (trial.latest.outcome == Proposal.COMMITTED && trial.late == now.late) {
                return margin;
            }
        }
        return -1;
    }

    public double meanError() {
        long sum = 0;
        for (int p = 0; p < now.setup.players; p++) {
            if (now.at(p).isUp) {
                sum += Math.abs(now.error(p));
            }
        }
        int up = now.countUp();
        return up == 0 ? 0.0 : (double) sum / (double) up;
    }

    public int propose(int song) throws IllegalArgumentException, IllegalStateException {
        if (song < 0 || song > 99) {
            throw new IllegalArgumentException("song is 0 to 99");
        }
        if (!now.canPropose()) {
            throw new IllegalStateException("the conductor is down, or a proposal is open");
        }
        keepForUndo();
        now.startProposal(song, now.margin(song));
        return now.latest.beat;
    }

    public boolean ask(int player) throws IndexOutOfBoundsException, IllegalStateException {
        refuseNoPlayer(player);
        if (!now.at(player).isUp || player == now.conductor) {
            throw new IllegalStateException("the player is down, or the conductor");
        }
        keepForUndo();
        return now.sendAsk(player);
    }

    public int pass(int ticks) throws IllegalArgumentException {
        if (ticks < 1 || ticks > 50) {
            throw new IllegalArgumentException("ticks is 1 to 50");
        }
        keepForUndo();
        int before = now.changes;
        for (int i = 0; i < ticks; i++) {
            now.tick();
        }
        return now.changes - before;
    }

    public boolean power(int player, boolean isUp) throws IndexOutOfBoundsException {
        refuseNoPlayer(player);
        keepForUndo();
        return now.at(player).turn(isUp);
    }

    public boolean cut(int from, int to, boolean isCut) throws IndexOutOfBoundsException, IllegalStateException {
        refuseNoPlayer(from);
        refuseNoPlayer(to);
        if (now.delay(from, to) == 0) {
            throw new IllegalStateException("there is no such link");
        }
        keepForUndo();
        boolean wasCut = now.isCut(from, to);
        now.setCut(from, to, isCut);
        return wasCut;
    }

    public int lead(int player) throws IndexOutOfBoundsException {
        refuseNoPlayer(player);
        keepForUndo();
        int previous = now.conductor;
        now.makeConductor(player);
        return previous;
    }

    public int undo() {
        if (undoable == 0) {
            return -1;
        }
        now.copyFrom(past[newest & 7]);
        newest = (newest - 1) & 7;
        undoable--;
        return undoable;
    }

    public long checksum() {
        long sum = 0;
        for (int what = 0; what <= 12; what++) {
            sum = 31 * sum + now.count(what);
        }
        for (int p = 0; p < now.setup.players; p++) {
            for (int what = 0; what <= 9; what++) {
                sum = 31 * sum + now.tellPlayer(p, what);
            }
        }
        for (int k = 0; k < now.mail.total; k++) {
            for (int what = 0; what <= 5; what++) {
                sum = 31 * sum + now.tellMessage(k, what);
            }
        }
        if (now.made > 0) {
            for (int what = 0; what <= 5; what++) {
                sum = 31 * sum + now.latest.tell(what);
            }
            sum = 31 * sum + now.latest.spreadOfChanges();
        }
        return sum;
    }

    private void refuseNoPlayer(int player) {
        if (player < 0 || player >= now.setup.players) {
            throw new IndexOutOfBoundsException("no such player");
        }
    }

    private void refuseWhatOutside(int what, int most) {
        if (what < 0 || what > most) {
            throw new IllegalArgumentException("what is out of range");
        }
    }

    // The ring has 8 places, so the ninth change overwrites the oldest one, which is final then.
    private void keepForUndo() {
        newest = (newest + 1) & 7;
        past[newest & 7].copyFrom(now);
        if (undoable < MOST_UNDOS) {
            undoable++;
        }
    }

    /** What a setup text tells; it stays as it is after the reading, so that several worlds share it. */
    private static final class Setup {
        private static final int MOST_PLAYERS = 8;

        private final int players;
        private int need;
        private int patience;
        // null without a margin statement
        private Formula margin;
        private final boolean[] isClockTold = new boolean[MOST_PLAYERS];
        private final int[] offset = new int[MOST_PLAYERS];
        private final int[] drift = new int[MOST_PLAYERS];
        private final int[] delay = new int[MOST_PLAYERS * MOST_PLAYERS];

        Setup(int players) {
            this.players = players;
        }

        // Neither can be told as 0, so 0 is what the text left out.
        void fillIn() {
            if (need == 0) {
                need = players;
            }
            if (patience == 0) {
                patience = 50;
            }
        }

        void setClock(int player, int newOffset, int newDrift) {
            isClockTold[player & 7] = true;
            offset[player & 7] = newOffset;
            drift[player & 7] = newDrift;
        }

        boolean hasClock(int player) {
            return isClockTold[player & 7];
        }

        void setDelay(int from, int to, int ticks) {
            delay[place(from, to)] = ticks;
        }

        int delayOf(int from, int to) {
            return delay[place(from, to)];
        }

        int clock(int player, int time) {
            return time + offset[player & 7] + time * drift[player & 7] / 1000;
        }

        // Players are 0 to 7: the masks change none of them and keep each place inside of 64.
        static int place(int from, int to) {
            return (from & 7) * MOST_PLAYERS + (to & 7);
        }
    }

    /** The expression of the margin: codes in the order in which they are worked off, operands first. */
    private static final class Formula {
        private static final int PLAYERS = -1;
        private static final int DELAY = -2;
        private static final int UP = -3;
        private static final int SONG = -4;
        private static final int PLUS = -5;
        private static final int MINUS = -6;
        private static final int TIMES = -7;
        private static final int OVER = -8;

        private static final int BOUND = 1000000;
        // Two operands wait at each of the 5 levels that 4 parentheses make, and one is at work.
        private static final int MOST_WAITING = 16;

        private final int[] codes;
        private final int[] stack = new int[MOST_WAITING];

        Formula(int[] source, int count) {
            codes = Arrays.copyOf(source, count < 0 ? 0 : count);
        }

        int value(int players, int delay, int up, int song) {
            int height = 0;
            for (int i = 0; i < codes.length; i++) {
                int code = codes[i];
                if (code <= PLUS) {
                    if (height >= 2 && height <= stack.length) {
                        stack[height - 2] = limited(code, stack[height - 2], stack[height - 1]);
                        height--;
                    }
                } else if (height < stack.length) {
                    stack[height] = operand(code, players, delay, up, song);
                    height++;
                }
            }
            return height == 0 ? 0 : stack[0];
        }

        private static int operand(int code, int players, int delay, int up, int song) {
            switch (code) {
                case PLAYERS:
                    return players;
                case DELAY:
                    return delay;
                case UP:
                    return up;
                case SONG:
                    return song;
                default:
                    return code;
            }
        }

        private static int limited(int code, int left, int right) {
            long result;
            if (code == PLUS) {
                result = (long) left + right;
            } else if (code == MINUS) {
                result = (long) left - right;
            } else if (code == TIMES) {
                result = (long) left * right;
            } else {
                result = right == 0 ? 0 : left / right;
            }
            return (int) Math.max(-BOUND, Math.min(BOUND, result));
        }
    }

    private static final class Player {
        private static final int NO_PLAN = 0;
        private static final int LOOSE_PLAN = 1;
        private static final int FIRM_PLAN = 2;

        private boolean isUp;
        private int guess;
        private int song;
        private int plan;
        private int planNumber;
        private int planSong;
        private int planBeat;
        private int changes;
        private int late;
        private int changedAt;

        void begin() {
            isUp = true;
            guess = 0;
            song = 0;
            dropPlan();
            changes = 0;
            late = 0;
            changedAt = -1;
        }

        void copyFrom(Player other) {
            isUp = other.isUp;
            guess = other.guess;
            song = other.song;
            plan = other.plan;
            planNumber = other.planNumber;
            planSong = other.planSong;
            planBeat = other.planBeat;
            changes = other.changes;
            late = other.late;
            changedAt = other.changedAt;
        }

        boolean turn(boolean up) {
            boolean wasUp = isUp;
            isUp = up;
            if (!up) {
                dropPlan();
            }
            return wasUp;
        }

        void takePlan(int number, int newSong, int beat, int kind) {
            if (planNumber > number) {
                return;
            }
            plan = kind;
            planNumber = number;
            planSong = newSong;
            planBeat = beat;
        }

        // Without a plan the number is -1, which is less than that of any proposal.
        void dropPlan() {
            plan = NO_PLAN;
            planNumber = -1;
        }

        boolean canChange(int estimate) {
            return isUp && plan == FIRM_PLAN && estimate >= planBeat;
        }

        void change(int time, boolean isLate) {
            song = planSong;
            changes++;
            if (isLate) {
                late++;
            }
            changedAt = time;
            dropPlan();
        }
    }

    /** The latest proposal; no other one can be open. */
    private static final class Proposal {
        private static final int OPEN = 0;
        private static final int COMMITTED = 1;
        private static final int GIVEN_UP = 2;
        private static final int NEVER_MADE = 3;

        private int song;
        private int beat;
        private int deadline;
        private int sender;
        private int votes;
        private int outcome;
        // -1 as long as nobody has changed
        private int firstChange;
        private int lastChange;

        void begin() {
            outcome = NEVER_MADE;
            firstChange = -1;
        }

        void start(int newSong, int newBeat, int newDeadline, int newSender) {
            song = newSong;
            beat = newBeat;
            deadline = newDeadline;
            sender = newSender;
            votes = 1;
            outcome = OPEN;
            firstChange = -1;
        }

        void copyFrom(Proposal other) {
            song = other.song;
            beat = other.beat;
            deadline = other.deadline;
            sender = other.sender;
            votes = other.votes;
            outcome = other.outcome;
            firstChange = other.firstChange;
            lastChange = other.lastChange;
        }

        void noteChange(int time) {
            if (firstChange < 0) {
                firstChange = time;
            }
            lastChange = time;
        }

        int spreadOfChanges() {
            return firstChange < 0 ? -1 : lastChange - firstChange;
        }

        int tell(int what) {
            switch (what) {
                case 0:
                    return song;
                case 1:
                    return beat;
                case 2:
                    return deadline;
                case 3:
                    return sender;
                case 4:
                    return votes;
                default:
                    return outcome;
            }
        }
    }

    /** One message, on its way into the mail or out of it. */
    private static final class Letter {
        private static final int ASK = 0;
        private static final int TELL = 1;
        private static final int PROPOSE = 2;
        private static final int VOTE = 3;
        private static final int COMMIT = 4;
        private static final int GIVE_UP = 5;

        private int kind;
        private int from;
        private int to;
        private int number;
        private int proposal;
        // Of an ask and a tell: what was remembered. Of a propose and a commit: the song.
        private int first;
        // Of a tell: the time told. Of a propose and a commit: the beat.
        private int second;

        int tell(int what, int arrival) {
            switch (what) {
                case 0:
                    return kind;
                case 1:
                    return from;
                case 2:
                    return to;
                case 3:
                    return arrival;
                case 4:
                    return number;
                default:
                    return proposal;
            }
        }
    }

    /**
     * The messages on their way, a row for each time of arrival. A delay is less than the number of
     * rows, so a row holds the messages of one time alone; they come into it by ascending numbers.
     */
    private static final class Mail {
        private static final int ROWS = 16;
        private static final int WIDTH = 7;
        // 512 calls send some 11000 messages at most; more come from later calls alone.
        private static final int MOST_MESSAGES = 1 << 14;

        private final int[][] rows = new int[ROWS][2 * WIDTH];
        private final int[] counts = new int[ROWS];
        private int total;

        void begin() {
            Arrays.fill(counts, 0);
            total = 0;
        }

        void copyFrom(Mail other) {
            for (int r = 0; r < ROWS; r++) {
                int[] source = other.rows[r];
                int used = Math.min(other.counts[r] * WIDTH, source.length);
                if (used > rows[r].length) {
                    rows[r] = new int[source.length];
                }
                System.arraycopy(source, 0, rows[r], 0, used);
                counts[r] = other.counts[r];
            }
            total = other.total;
        }

        int countAt(int time) {
            return counts[time & 15];
        }

        boolean add(int time, Letter letter) {
            if (total >= MOST_MESSAGES) {
                return false;
            }
            int r = time & 15;
            int start = counts[r] * WIDTH;
            if (start + WIDTH > rows[r].length) {
                int[] longer = new int[2 * start + WIDTH];
                System.arraycopy(rows[r], 0, longer, 0, Math.min(start, rows[r].length));
                rows[r] = longer;
            }
            int[] row = rows[r];
            row[start] = letter.kind;
            row[start + 1] = letter.from;
            row[start + 2] = letter.to;
            row[start + 3] = letter.number;
            row[start + 4] = letter.proposal;
            row[start + 5] = letter.first;
            row[start + 6] = letter.second;
            counts[r]++;
            total++;
            return true;
        }

        boolean read(int time, int place, Letter letter) {
            int r = time & 15;
            if (place < 0 || place >= counts[r] || (place + 1) * WIDTH > rows[r].length) {
                return false;
            }
            int[] row = rows[r];
            int start = place * WIDTH;
            letter.kind = row[start];
            letter.from = row[start + 1];
            letter.to = row[start + 2];
            letter.number = row[start + 3];
            letter.proposal = row[start + 4];
            letter.first = row[start + 5];
            letter.second = row[start + 6];
            return true;
        }

        void clear(int time) {
            total -= counts[time & 15];
            counts[time & 15] = 0;
        }
    }

    /** All data that a load replaces and an undo brings back. */
    private static final class World {
        private static final int MOST_DELAY = 9;
        private static final int MOST_FORETOLD = 400;
        private static final int MOST_MARGIN = 1000;

        private Setup setup;
        private final Player[] players = new Player[Setup.MOST_PLAYERS];
        private final Mail mail = new Mail();
        private final Proposal latest = new Proposal();
        private final Letter incoming = new Letter();
        private final Letter outgoing = new Letter();
        // A bit for each of the 64 places of a link: 1 if it is cut.
        private long cuts;
        private int time;
        private int conductor;
        private int sent;
        private int lost;
        private int made;
        private int committed;
        private int givenUp;
        private int changes;
        private int late;

        World() {
            for (int i = 0; i < players.length; i++) {
                players[i] = new Player();
            }
            Setup alone = new Setup(1);
            alone.fillIn();
            begin(alone);
        }

        void begin(Setup newSetup) {
            setup = newSetup;
            for (int i = 0; i < players.length; i++) {
                players[i].begin();
            }
            mail.begin();
            latest.begin();
            cuts = 0;
            time = 0;
            conductor = 0;
            sent = 0;
            lost = 0;
            made = 0;
            committed = 0;
            givenUp = 0;
            changes = 0;
            late = 0;
        }

        void copyFrom(World other) {
            setup = other.setup;
            for (int i = 0; i < players.length; i++) {
                players[i].copyFrom(other.at(i));
            }
            mail.copyFrom(other.mail);
            latest.copyFrom(other.latest);
            cuts = other.cuts;
            time = other.time;
            conductor = other.conductor;
            sent = other.sent;
            lost = other.lost;
            made = other.made;
            committed = other.committed;
            givenUp = other.givenUp;
            changes = other.changes;
            late = other.late;
        }

        // Players are 0 to 7: the mask changes none of them.
        Player at(int player) {
            return players[player & 7];
        }

        int clock(int player) {
            return setup.clock(player, time);
        }

        int estimate(int player) {
            return clock(player) + at(player).guess;
        }

        int error(int player) {
            return estimate(player) - clock(conductor);
        }

        int delay(int from, int to) {
            return setup.delayOf(from, to);
        }

        boolean isCut(int from, int to) {
            return (cuts >> Setup.place(from, to) & 1) == 1;
        }

        void setCut(int from, int to, boolean isCut) {
            long link = 1L << Setup.place(from, to);
            cuts = isCut ? cuts | link : cuts & ~link;
        }

        int countUp() {
            int up = 0;
            for (int p = 0; p < setup.players; p++) {
                if (at(p).isUp) {
                    up++;
                }
            }
            return up;
        }

        int countSongs() {
            int songs = 0;
            for (int p = 0; p < setup.players; p++) {
                if (at(p).isUp && isFirstWithItsSong(p)) {
                    songs++;
                }
            }
            return songs;
        }

        private boolean isFirstWithItsSong(int player) {
            for (int p = 0; p < player; p++) {
                if (at(p).isUp && at(p).song == at(player).song) {
                    return false;
                }
            }
            return true;
        }

        private int greatestOpenDelay() {
            int greatest = 0;
            for (int from = 0; from < setup.players; from++) {
                for (int to = 0; to < setup.players; to++) {
                    if (!isCut(from, to)) {
                        greatest = Math.max(greatest, delay(from, to));
                    }
                }
            }
            return greatest;
        }

        int margin(int song) {
            Formula formula = setup.margin;
            int delay = greatestOpenDelay();
            if (formula == null) {
                return 2 * delay + 1;
            }
            int value = formula.value(setup.players, delay, countUp(), song);
            return Math.max(1, Math.min(MOST_MARGIN, value));
        }

        int count(int what) {
            switch (what) {
                case 0:
                    return setup.players;
                case 1:
                    return time;
                case 2:
                    return conductor;
                case 3:
                    return mail.total;
                case 4:
                    return sent;
                case 5:
                    return lost;
                case 6:
                    return made;
                case 7:
                    return committed;
                case 8:
                    return givenUp;
                case 9:
                    return countSongs();
                case 10:
                    return changes;
                case 11:
                    return late;
                default:
                    return margin(1);
            }
        }

        int tellPlayer(int player, int what) {
            Player who = at(player);
            switch (what) {
                case 0:
                    return who.isUp ? 1 : 0;
                case 1:
                    return clock(player);
                case 2:
                    return who.guess;
                case 3:
                    return who.song;
                case 4:
                    return who.plan;
                case 5:
                    return who.planNumber;
                case 6:
                    return who.changes;
                case 7:
                    return who.late;
                case 8:
                    return who.changedAt;
                default:
                    return error(player);
            }
        }

        int tellMessage(int k, int what) {
            int rest = k;
            for (int delay = 1; delay <= MOST_DELAY; delay++) {
                if (mail.read(time + delay, rest, incoming)) {
                    return incoming.tell(what, time + delay);
                }
                rest -= mail.countAt(time + delay);
            }
            return 0;
        }

        boolean canPropose() {
            return at(conductor).isUp && latest.outcome != Proposal.OPEN;
        }

        void startProposal(int song, int margin) {
            latest.start(song, clock(conductor) + margin, time + setup.patience, conductor);
            made++;
            at(conductor).takePlan(made - 1, song, latest.beat, Player.LOOSE_PLAN);
            sendToOthers(Letter.PROPOSE);
            commitIfVoted();
        }

        boolean sendAsk(int player) {
            return send(Letter.ASK, player, conductor, -1, clock(player), 0);
        }

        void makeConductor(int player) {
            conductor = player;
            for (int i = 0; i < players.length; i++) {
                at(i).guess = 0;
            }
        }

        void tick() {
            time++;
            int due = mail.countAt(time);
            for (int place = 0; place < due; place++) {
                if (mail.read(time, place, incoming)) {
                    receive();
                    commitIfVoted();
                }
            }
            mail.clear(time);
            if (latest.outcome == Proposal.OPEN && latest.deadline == time) {
                giveUp();
            }
            for (int p = 0; p < setup.players; p++) {
                changeIfDue(p);
            }
        }

        /** Lets time pass as foretold does, or only until it is seen that a new proposal is not safe. */
        int runOn(boolean isOnlyWhileSafe) {
            int lateBefore = late;
            int ticks = 0;
            while (ticks < MOST_FORETOLD && isBusy()) {
                if (isOnlyWhileSafe && (late != lateBefore || latest.outcome == Proposal.GIVEN_UP)) {
                    return ticks;
                }
                tick();
                ticks++;
            }
            return ticks;
        }

        private boolean isBusy() {
            if (mail.total > 0 || latest.outcome == Proposal.OPEN) {
                return true;
            }
            for (int p = 0; p < setup.players; p++) {
                if (at(p).isUp && at(p).plan == Player.FIRM_PLAN) {
                    return true;
                }
            }
            return false;
        }

        private void receive() {
            Letter in = incoming;
            Player who = at(in.to);
            if (!who.isUp) {
                lost++;
                return;
            }
            switch (in.kind) {
                case Letter.ASK:
                    send(Letter.TELL, in.to, in.from, -1, in.first, clock(in.to));
                    break;
                case Letter.TELL:
                    if (in.to != conductor) {
                        int own = clock(in.to);
                        who.guess = in.second + (own - in.first) / 2 - own;
                    }
                    break;
                case Letter.PROPOSE:
                    who.takePlan(in.proposal, in.first, in.second, Player.LOOSE_PLAN);
                    send(Letter.VOTE, in.to, in.from, in.proposal, 0, 0);
                    break;
                case Letter.VOTE:
                    if (isOpen(in.proposal) && in.to == latest.sender) {
                        latest.votes++;
                    }
                    break;
                case Letter.COMMIT:
                    who.takePlan(in.proposal, in.first, in.second, Player.FIRM_PLAN);
                    break;
                default:
                    if (who.plan == Player.LOOSE_PLAN && who.planNumber == in.proposal) {
                        who.dropPlan();
                    }
                    break;
            }
        }

        private boolean isOpen(int number) {
            return latest.outcome == Proposal.OPEN && number == made - 1;
        }

        private void commitIfVoted() {
            if (latest.outcome != Proposal.OPEN || latest.votes < setup.need) {
                return;
            }
            latest.outcome = Proposal.COMMITTED;
            committed++;
            at(latest.sender).takePlan(made - 1, latest.song, latest.beat, Player.FIRM_PLAN);
            sendToOthers(Letter.COMMIT);
        }

        private void giveUp() {
            latest.outcome = Proposal.GIVEN_UP;
            givenUp++;
            Player sender = at(latest.sender);
            if (!sender.isUp) {
                return;
            }
            if (sender.planNumber == made - 1) {
                sender.dropPlan();
            }
            sendToOthers(Letter.GIVE_UP);
        }

        private void changeIfDue(int player) {
            Player who = at(player);
            int estimate = estimate(player);
            if (!who.canChange(estimate)) {
                return;
            }
            boolean isLate = estimate > who.planBeat;
            if (who.planNumber == made - 1) {
                latest.noteChange(time);
            }
            who.change(time, isLate);
            changes++;
            if (isLate) {
                late++;
            }
        }

        private void sendToOthers(int kind) {
            for (int p = 0; p < setup.players; p++) {
                if (p != latest.sender) {
                    send(kind, latest.sender, p, made - 1, latest.song, latest.beat);
                }
            }
        }

        private boolean send(int kind, int from, int to, int proposal, int first, int second) {
            Letter out = outgoing;
            out.kind = kind;
            out.from = from;
            out.to = to;
            out.number = sent;
            out.proposal = proposal;
            out.first = first;
            out.second = second;
            sent++;
            int delay = setup.delayOf(from, to);
            if (delay > 0 && !isCut(from, to) && mail.add(time + delay, out)) {
                return true;
            }
            lost++;
            return false;
        }
    }

    /** The input buffer, and the reading of a setup text from it. */
    private static final class Reader {
        private static final int MOST_BYTES = 600;
        private static final int MOST_NESTED = 4;
        private static final int MOST_READ = 1000000;

        private static final int END = 0;
        private static final int NUMBER = 1;
        private static final int WORD = 2;
        private static final int MARK = 3;

        private final byte[] text = new byte[MOST_BYTES];
        private int stored;
        private int length;
        private int position;
        // The token that is looked at: its kind, its first byte and, of a number, its value.
        private int kind;
        private int start;
        private int value;
        // The number that was taken last and, if it has no sign, where it began.
        private int taken;
        private int takenAt;
        private final int[] codes = new int[MOST_BYTES];
        private int codeCount;
        private Setup setup;
        private int errorCode;
        private int errorStart;

        boolean hasRoomFor(int bytes) {
            return stored + bytes <= text.length;
        }

        void store(int word) {
            for (int shift = 24; shift >= 0 && stored < text.length; shift -= 8) {
                text[stored] = (byte) (word >> shift);
                stored++;
            }
        }

        /** Reads the first bytes and empties the buffer; gives null if the text has an error. */
        Setup read(int count) {
            length = Math.max(0, Math.min(count, text.length));
            stored = 0;
            position = 0;
            codeCount = 0;
            errorStart = -1;
            step();
            if (!takeWord("players") || !takeNumber(1, Setup.MOST_PLAYERS)) {
                return null;
            }
            setup = new Setup(taken);
            if (!takeMark(';')) {
                return null;
            }
            for (int i = 0; i < MOST_BYTES && kind != END; i++) {
                if (!readStatement() || !takeMark(';')) {
                    return null;
                }
            }
            setup.fillIn();
            return setup;
        }

        private boolean readStatement() {
            if (isWord("clock")) {
                return readClock();
            }
            if (isWord("link")) {
                return readLink();
            }
            if (isWord("need") && setup.need == 0) {
                return readNeed();
            }
            if (isWord("patience") && setup.patience == 0) {
                return readPatience();
            }
            if (isWord("margin") && setup.margin == null) {
                step();
                if (!readSum(0)) {
                    return false;
                }
                setup.margin = new Formula(codes, codeCount);
                return true;
            }
            return fail(SYNTAX_ERROR, start);
        }

        private boolean readNeed() {
            step();
            if (!takeNumber(1, setup.players)) {
                return false;
            }
            setup.need = taken;
            return true;
        }

        private boolean readPatience() {
            step();
            if (!takeNumber(1, 200)) {
                return false;
            }
            setup.patience = taken;
            return true;
        }

        private boolean readClock() {
            step();
            if (!takeNumber(0, setup.players - 1)) {
                return false;
            }
            int player = taken;
            if (setup.hasClock(player)) {
                return fail(REPEATED, takenAt);
            }
            if (!takeSigned(999)) {
                return false;
            }
            int offset = taken;
            if (!takeSigned(50)) {
                return false;
            }
            setup.setClock(player, offset, taken);
            return true;
        }

        private boolean readLink() {
            step();
            if (!takeNumber(0, setup.players - 1)) {
                return false;
            }
            int from = taken;
            if (!takeNumber(0, setup.players - 1)) {
                return false;
            }
            int to = taken;
            if (from == to || setup.delayOf(from, to) != 0) {
                return fail(REPEATED, takenAt);
            }
            if (!takeNumber(1, World.MOST_DELAY)) {
                return false;
            }
            int there = taken;
            if (!takeNumber(1, World.MOST_DELAY)) {
                return false;
            }
            setup.setDelay(from, to, there);
            setup.setDelay(to, from, taken);
            return true;
        }

        private boolean readSum(int depth) {
            if (!readTerm(depth)) {
                return false;
            }
            for (int i = 0; i < MOST_BYTES && (isMark('+') || isMark('-')); i++) {
                int code = isMark('+') ? Formula.PLUS : Formula.MINUS;
                step();
                if (!readTerm(depth)) {
                    return false;
                }
                putCode(code);
            }
            return true;
        }

        private boolean readTerm(int depth) {
            if (!readFactor(depth)) {
                return false;
            }
            for (int i = 0; i < MOST_BYTES && (isMark('*') || isMark('/')); i++) {
                int code = isMark('*') ? Formula.TIMES : Formula.OVER;
                step();
                if (!readFactor(depth)) {
                    return false;
                }
                putCode(code);
            }
            return true;
        }

        private boolean readFactor(int depth) {
            if (kind == NUMBER) {
                if (!takeNumber(0, 9999)) {
                    return false;
                }
                putCode(taken);
                return true;
            }
            if (isMark('(')) {
                if (depth >= MOST_NESTED) {
                    return fail(TOO_DEEP, start);
                }
                step();
                return readSum(depth + 1) && takeMark(')');
            }
            int code = codeOfWord();
            if (code == 0) {
                return fail(SYNTAX_ERROR, start);
            }
            putCode(code);
            step();
            return true;
        }

        private int codeOfWord() {
            if (isWord("players")) {
                return Formula.PLAYERS;
            }
            if (isWord("delay")) {
                return Formula.DELAY;
            }
            if (isWord("up")) {
                return Formula.UP;
            }
            return isWord("song") ? Formula.SONG : 0;
        }

        private void putCode(int code) {
            if (codeCount < codes.length) {
                codes[codeCount] = code;
                codeCount++;
            }
        }

        private boolean takeWord(String word) {
            if (!isWord(word)) {
                return fail(SYNTAX_ERROR, start);
            }
            step();
            return true;
        }

        private boolean takeMark(char mark) {
            if (!isMark(mark)) {
                return fail(SYNTAX_ERROR, start);
            }
            step();
            return true;
        }

        private boolean takeNumber(int least, int most) {
            if (kind != NUMBER) {
                return fail(SYNTAX_ERROR, start);
            }
            if (value < least || value > most) {
                return fail(OUT_OF_RANGE, start);
            }
            taken = value;
            takenAt = start;
            step();
            return true;
        }

        private boolean takeSigned(int most) {
            boolean isNegative = isMark('-');
            int at = start;
            if (isNegative) {
                step();
            }
            if (kind != NUMBER) {
                return fail(SYNTAX_ERROR, start);
            }
            if (value > most) {
                return fail(OUT_OF_RANGE, at);
            }
            taken = isNegative ? -value : value;
            step();
            return true;
        }

        private boolean isMark(char mark) {
            return kind == MARK && value == mark;
        }

        private boolean isWord(String word) {
            if (kind != WORD || position - start != word.length() || position > text.length) {
                return false;
            }
            for (int i = 0; i < word.length() && start + i < position; i++) {
                if (text[start + i] != word.charAt(i)) {
                    return false;
                }
            }
            return true;
        }

        private boolean fail(int code, int offset) {
            errorCode = code;
            errorStart = offset;
            return false;
        }

        /** Goes on to the next token. */
        private void step() {
            while (position < length && text[position] == ' ') {
                position++;
            }
            start = position;
            value = 0;
            if (position >= length) {
                kind = END;
                return;
            }
            byte first = text[position];
            if (first >= '0' && first <= '9') {
                kind = NUMBER;
                while (position < length && text[position] >= '0' && text[position] <= '9') {
                    int longer = 10 * value + text[position] - '0';
                    value = longer < MOST_READ ? longer : MOST_READ;
                    position++;
                }
            } else if (first >= 'a' && first <= 'z') {
                kind = WORD;
                while (position < length && text[position] >= 'a' && text[position] <= 'z') {
                    position++;
                }
            } else {
                kind = MARK;
                value = first;
                position++;
            }
        }
    }
}
