import java.util.ArrayDeque;
import java.util.ArrayList;
import java.util.Comparator;
import java.util.Deque;
import java.util.HashMap;
import java.util.HashSet;
import java.util.List;
import java.util.Map;
import java.util.NoSuchElementException;
import java.util.Set;
import java.util.TreeMap;
import java.util.regex.Matcher;
import java.util.regex.Pattern;

/**
 * The document once more, written for plainness and not for room or speed, to hold the class against:
 * every message ever sent and every proposal ever made stays in a list, and an undo goes back to a
 * whole copy.
 */
final class Model {
    /** A fault in a setup text. */
    static final class Fault extends Exception {
        private static final long serialVersionUID = 1L;
        final int code;
        final int offset;

        Fault(int code, int offset) {
            this.code = code;
            this.offset = offset;
        }
    }

    private static final class Message {
        int kind;
        int from;
        int to;
        int number;
        int proposal = -1;
        int arrives;
        boolean isOnItsWay;
        int remembered;
        int told;

        Message copy() {
            Message m = new Message();
            m.kind = kind;
            m.from = from;
            m.to = to;
            m.number = number;
            m.proposal = proposal;
            m.arrives = arrives;
            m.isOnItsWay = isOnItsWay;
            m.remembered = remembered;
            m.told = told;
            return m;
        }
    }

    private static final class Proposal {
        int number;
        int song;
        int beat;
        int deadline;
        int sender;
        Set<Integer> voters = new HashSet<>();
        int fate;
        List<Integer> changes = new ArrayList<>();

        Proposal copy() {
            Proposal p = new Proposal();
            p.number = number;
            p.song = song;
            p.beat = beat;
            p.deadline = deadline;
            p.sender = sender;
            p.voters = new HashSet<>(voters);
            p.fate = fate;
            p.changes = new ArrayList<>(changes);
            return p;
        }
    }

    private static final class Musician {
        int offset;
        int drift;
        boolean up = true;
        int guess;
        int song;
        Integer plan;
        boolean firm;
        int changes;
        int late;
        int last = -1;

        Musician copy() {
            Musician m = new Musician();
            m.offset = offset;
            m.drift = drift;
            m.up = up;
            m.guess = guess;
            m.song = song;
            m.plan = plan;
            m.firm = firm;
            m.changes = changes;
            m.late = late;
            m.last = last;
            return m;
        }
    }

    /** All that an undo brings back. */
    private static final class Room {
        List<Musician> players = new ArrayList<>();
        TreeMap<Integer, Integer> delays = new TreeMap<>();
        Set<Integer> cut = new HashSet<>();
        int need = 1;
        int patience = 50;
        String margin = "2*delay+1";
        int time;
        int conductor;
        List<Message> sent = new ArrayList<>();
        int lost;
        List<Proposal> proposals = new ArrayList<>();

        Room copy() {
            Room r = new Room();
            for (Musician m : players) {
                r.players.add(m.copy());
            }
            r.delays.putAll(delays);
            r.cut.addAll(cut);
            r.need = need;
            r.patience = patience;
            r.margin = margin;
            r.time = time;
            r.conductor = conductor;
            for (Message m : sent) {
                r.sent.add(m.copy());
            }
            r.lost = lost;
            for (Proposal p : proposals) {
                r.proposals.add(p.copy());
            }
            return r;
        }

        int clock(int p) {
            Musician m = players.get(p);
            return time + m.offset + time * m.drift / 1000;
        }

        int estimate(int p) {
            return clock(p) + players.get(p).guess;
        }

        Proposal latest() {
            return proposals.isEmpty() ? null : proposals.get(proposals.size() - 1);
        }

        boolean isOpen() {
            return latest() != null && latest().fate == 0;
        }

        boolean canPropose() {
            return players.get(conductor).up && !isOpen();
        }

        Message send(int kind, int from, int to) {
            Message m = new Message();
            m.kind = kind;
            m.from = from;
            m.to = to;
            m.number = sent.size();
            sent.add(m);
            int key = from * 10 + to;
            if (delays.containsKey(key) && !cut.contains(key)) {
                m.isOnItsWay = true;
                m.arrives = time + delays.get(key);
            } else {
                lost++;
            }
            return m;
        }

        void sendAll(int kind, Proposal p) {
            for (int to = 0; to < players.size(); to++) {
                if (to != p.sender) {
                    send(kind, p.sender, to).proposal = p.number;
                }
            }
        }

        void give(int player, int number, boolean firm) {
            Musician m = players.get(player);
            if (m.plan == null || m.plan <= number) {
                m.plan = number;
                m.firm = firm;
            }
        }

        void vote(Proposal p, int who) {
            p.voters.add(who);
            if (p.voters.size() >= need) {
                p.fate = 1;
                give(p.sender, p.number, true);
                sendAll(4, p);
            }
        }

        int propose(int song, int margin) {
            Proposal p = new Proposal();
            p.number = proposals.size();
            p.song = song;
            p.beat = clock(conductor) + margin;
            p.deadline = time + patience;
            p.sender = conductor;
            proposals.add(p);
            give(conductor, p.number, false);
            sendAll(2, p);
            vote(p, conductor);
            return p.beat;
        }

        List<Message> onTheirWay() {
            List<Message> list = new ArrayList<>();
            for (Message m : sent) {
                if (m.isOnItsWay) {
                    list.add(m);
                }
            }
            list.sort(Comparator.<Message>comparingInt(m -> m.arrives).thenComparingInt(m -> m.number));
            return list;
        }

        void tick() {
            time++;
            for (Message m : onTheirWay()) {
                if (m.arrives == time) {
                    m.isOnItsWay = false;
                    if (players.get(m.to).up) {
                        handle(m);
                    } else {
                        lost++;
                    }
                }
            }
            if (isOpen() && latest().deadline == time) {
                Proposal p = latest();
                p.fate = 2;
                Musician s = players.get(p.sender);
                if (s.up) {
                    if (s.plan != null && s.plan == p.number) {
                        s.plan = null;
                    }
                    sendAll(5, p);
                }
            }
            for (int i = 0; i < players.size(); i++) {
                Musician m = players.get(i);
                if (m.up && m.plan != null && m.firm && estimate(i) >= proposals.get(m.plan).beat) {
                    Proposal p = proposals.get(m.plan);
                    m.song = p.song;
                    m.plan = null;
                    m.changes++;
                    m.last = time;
                    if (estimate(i) > p.beat) {
                        m.late++;
                    }
                    p.changes.add(time);
                }
            }
        }

        void handle(Message m) {
            Musician who = players.get(m.to);
            switch (m.kind) {
                case 0: {
                    Message tell = send(1, m.to, m.from);
                    tell.remembered = m.remembered;
                    tell.told = clock(m.to);
                    break;
                }
                case 1:
                    who.guess = m.told + (clock(m.to) - m.remembered) / 2 - clock(m.to);
                    if (m.to == conductor) {
                        who.guess = 0;
                    }
                    break;
                case 2:
                    give(m.to, m.proposal, false);
                    send(3, m.to, m.from).proposal = m.proposal;
                    break;
                case 3:
                    if (proposals.get(m.proposal).fate == 0) {
                        vote(proposals.get(m.proposal), m.from);
                    }
                    break;
                case 4:
                    give(m.to, m.proposal, true);
                    break;
                default:
                    if (who.plan != null && who.plan == m.proposal && !who.firm) {
                        who.plan = null;
                    }
                    break;
            }
        }

        boolean isLive() {
            if (isOpen() || !onTheirWay().isEmpty()) {
                return true;
            }
            for (Musician m : players) {
                if (m.up && m.plan != null && m.firm) {
                    return true;
                }
            }
            return false;
        }

        int settle() {
            int ticks = 0;
            while (ticks < 400 && isLive()) {
                tick();
                ticks++;
            }
            return ticks;
        }

        int late() {
            int sum = 0;
            for (Musician m : players) {
                sum += m.late;
            }
            return sum;
        }

        int songs() {
            Set<Integer> songs = new HashSet<>();
            for (Musician m : players) {
                if (m.up) {
                    songs.add(m.song);
                }
            }
            return songs.size();
        }

        int spread() {
            if (latest() == null || latest().changes.isEmpty()) {
                return -1;
            }
            List<Integer> c = latest().changes;
            return c.get(c.size() - 1) - c.get(0);
        }

        int marginFor(int song) {
            Map<String, Integer> names = new HashMap<>();
            int delay = 0;
            for (int key : delays.keySet()) {
                if (!cut.contains(key)) {
                    delay = Math.max(delay, delays.get(key));
                }
            }
            int up = 0;
            for (Musician m : players) {
                up += m.up ? 1 : 0;
            }
            names.put("players", players.size());
            names.put("delay", delay);
            names.put("up", up);
            names.put("song", song);
            int value = new Sum(margin, names).all();
            return Math.min(1000, Math.max(1, value));
        }
    }

    /** Works a sum off straight from its text, which is known to be right. */
    private static final class Sum {
        private final String text;
        private final Map<String, Integer> names;
        private int at;

        Sum(String text, Map<String, Integer> names) {
            this.text = text.replace(" ", "");
            this.names = names;
        }

        int all() {
            return (int) sum();
        }

        private long clip(long n) {
            return n > 1000000 ? 1000000 : n < -1000000 ? -1000000 : n;
        }

        private boolean sees(String marks) {
            return at < text.length() && marks.indexOf(text.charAt(at)) >= 0;
        }

        private long sum() {
            long left = term();
            while (sees("+-")) {
                char mark = text.charAt(at++);
                long right = term();
                left = clip(mark == '+' ? left + right : left - right);
            }
            return left;
        }

        private long term() {
            long left = factor();
            while (sees("*/")) {
                char mark = text.charAt(at++);
                long right = factor();
                left = clip(mark == '*' ? left * right : right == 0 ? 0 : left / right);
            }
            return left;
        }

        private long factor() {
            if (sees("(")) {
                at++;
                long inside = sum();
                at++;
                return inside;
            }
            int from = at;
            while (sees("abcdefghijklmnopqrstuvwxyz0123456789")) {
                at++;
            }
            String word = text.substring(from, at);
            return names.containsKey(word) ? names.get(word) : Long.parseLong(word);
        }
    }

    private Room room = new Room();
    private final Deque<Room> before = new ArrayDeque<>();
    private final StringBuilder buffer = new StringBuilder();
    private int errorAt = -1;

    Model() {
        room.players.add(new Musician());
    }

    int append(int... words) {
        if (buffer.length() + 20 > 600) {
            return -1;
        }
        for (int w : words) {
            for (int shift = 24; shift >= 0; shift -= 8) {
                buffer.append((char) (w >>> shift & 255));
            }
        }
        return buffer.length();
    }

    private void keep() {
        before.addLast(room.copy());
        if (before.size() > 8) {
            before.removeFirst();
        }
    }

    int load(int length) {
        if (length < 0 || length > buffer.length()) {
            throw new IllegalArgumentException();
        }
        String text = buffer.substring(0, length);
        buffer.setLength(0);
        try {
            Room read = read(text);
            keep();
            room = read;
            errorAt = -1;
            return room.players.size();
        } catch (Fault f) {
            errorAt = f.offset;
            return f.code;
        }
    }

    /** The words, numbers and marks of a setup text with their places; a last empty one is its end. */
    private static final class Tokens {
        final List<String> texts = new ArrayList<>();
        final List<Integer> places = new ArrayList<>();
        int next;

        Tokens(String text) {
            Matcher m = Pattern.compile("[0-9]+|[a-z]+|[^ ]", Pattern.DOTALL).matcher(text);
            while (m.find()) {
                texts.add(m.group());
                places.add(m.start());
            }
            texts.add("");
            places.add(text.length());
        }

        String peek() {
            return texts.get(next);
        }

        int place() {
            return places.get(next);
        }

        void expect(String due) throws Fault {
            if (!peek().equals(due)) {
                throw new Fault(-2, place());
            }
            next++;
        }

        int number(int least, int most) throws Fault {
            return number(least, most, place());
        }

        int number(int least, int most, int blame) throws Fault {
            if (!peek().matches("[0-9]+")) {
                throw new Fault(-2, place());
            }
            String digits = peek().replaceFirst("^0+(?=.)", "");
            if (digits.length() > 6 || Integer.parseInt(digits) < least || Integer.parseInt(digits) > most) {
                throw new Fault(-3, blame);
            }
            next++;
            return Integer.parseInt(digits);
        }

        int sign(int most) throws Fault {
            int blame = place();
            if (peek().equals("-")) {
                next++;
                return -number(0, most, blame);
            }
            return number(0, most, blame);
        }

        void sum(int inside) throws Fault {
            do {
                factor(inside);
            } while (isOneOf("+-*/"));
        }

        private boolean isOneOf(String marks) {
            if (peek().length() == 1 && marks.contains(peek())) {
                next++;
                return true;
            }
            return false;
        }

        private void factor(int inside) throws Fault {
            if (peek().matches("players|delay|up|song")) {
                next++;
            } else if (peek().equals("(")) {
                if (inside == 4) {
                    throw new Fault(-5, place());
                }
                next++;
                sum(inside + 1);
                expect(")");
            } else {
                number(0, 9999);
            }
        }
    }

    private static Room read(String text) throws Fault {
        Tokens t = new Tokens(text);
        Room r = new Room();
        t.expect("players");
        int count = t.number(1, 8);
        t.expect(";");
        for (int i = 0; i < count; i++) {
            r.players.add(new Musician());
        }
        r.need = count;
        Set<String> told = new HashSet<>();
        while (!t.peek().isEmpty()) {
            String word = t.peek();
            if (!word.matches("clock|link|need|patience|margin") || told.contains(word)) {
                throw new Fault(-2, t.place());
            }
            t.next++;
            if (word.equals("clock")) {
                clock(t, r, told);
            } else if (word.equals("link")) {
                link(t, r);
            } else {
                told.add(word);
                int from = t.place();
                if (word.equals("need")) {
                    r.need = t.number(1, count);
                } else if (word.equals("patience")) {
                    r.patience = t.number(1, 200);
                } else {
                    t.sum(0);
                    r.margin = text.substring(from, t.place());
                }
            }
            t.expect(";");
        }
        return r;
    }

    private static void clock(Tokens t, Room r, Set<String> told) throws Fault {
        int place = t.place();
        int p = t.number(0, r.players.size() - 1);
        if (!told.add("clock of " + p)) {
            throw new Fault(-4, place);
        }
        r.players.get(p).offset = t.sign(999);
        r.players.get(p).drift = t.sign(50);
    }

    private static void link(Tokens t, Room r) throws Fault {
        int from = t.number(0, r.players.size() - 1);
        int place = t.place();
        int to = t.number(0, r.players.size() - 1);
        if (from == to || r.delays.containsKey(from * 10 + to)) {
            throw new Fault(-4, place);
        }
        r.delays.put(from * 10 + to, t.number(1, 9));
        r.delays.put(to * 10 + from, t.number(1, 9));
    }

    int errorOffset() {
        return errorAt;
    }

    private void checkWhat(int what, int most) {
        if (what < 0 || what > most) {
            throw new IllegalArgumentException();
        }
    }

    private void checkPlayer(int p) {
        if (p < 0 || p >= room.players.size()) {
            throw new IndexOutOfBoundsException();
        }
    }

    int state(int what) {
        checkWhat(what, 12);
        int committed = 0;
        int givenUp = 0;
        for (Proposal p : room.proposals) {
            committed += p.fate == 1 ? 1 : 0;
            givenUp += p.fate == 2 ? 1 : 0;
        }
        int changes = 0;
        for (Musician m : room.players) {
            changes += m.changes;
        }
        int[] all = {room.players.size(), room.time, room.conductor, room.onTheirWay().size(), room.sent.size(),
            room.lost, room.proposals.size(), committed, givenUp, room.songs(), changes, room.late(),
            room.marginFor(1)};
        return all[what];
    }

    int player(int p, int what) {
        checkPlayer(p);
        checkWhat(what, 9);
        Musician m = room.players.get(p);
        int[] all = {m.up ? 1 : 0, room.clock(p), m.guess, m.song, m.plan == null ? 0 : m.firm ? 2 : 1,
            m.plan == null ? -1 : m.plan, m.changes, m.late, m.last, room.estimate(p) - room.clock(room.conductor)};
        return all[what];
    }

    int link(int from, int to) {
        checkPlayer(from);
        checkPlayer(to);
        int key = from * 10 + to;
        int delay = room.delays.getOrDefault(key, 0);
        return room.cut.contains(key) ? -delay : delay;
    }

    int message(int k, int what) {
        List<Message> list = room.onTheirWay();
        if (k < 0 || k >= list.size()) {
            throw new NoSuchElementException();
        }
        checkWhat(what, 5);
        Message m = list.get(k);
        return new int[] {m.kind, m.from, m.to, m.arrives, m.number, m.proposal}[what];
    }

    int proposal(int what) {
        Proposal p = room.latest();
        if (p == null) {
            throw new NoSuchElementException();
        }
        checkWhat(what, 5);
        return new int[] {p.song, p.beat, p.deadline, p.sender, p.voters.size(), p.fate}[what];
    }

    int spread() {
        return room.spread();
    }

    int foretold(int what) {
        checkWhat(what, 4);
        Room later = room.copy();
        int ticks = later.settle();
        int fate = later.latest() == null ? -1 : later.latest().fate;
        return new int[] {ticks, fate, later.spread(), later.songs(), later.late() - room.late()}[what];
    }

    int safest() {
        for (int margin = 1; margin <= 60 && room.canPropose(); margin++) {
            Room later = room.copy();
            later.propose(1, margin);
            later.settle();
            if (later.latest().fate == 1 && later.late() == room.late()) {
                return margin;
            }
        }
        return -1;
    }

    double meanError() {
        double sum = 0;
        double count = 0;
        for (int p = 0; p < room.players.size(); p++) {
            if (room.players.get(p).up) {
                sum += Math.abs(player(p, 9));
                count++;
            }
        }
        return count == 0 ? 0 : sum / count;
    }

    int propose(int song) {
        checkWhat(song, 99);
        if (!room.canPropose()) {
            throw new IllegalStateException();
        }
        keep();
        return room.propose(song, room.marginFor(song));
    }

    boolean ask(int p) {
        checkPlayer(p);
        if (!room.players.get(p).up || p == room.conductor) {
            throw new IllegalStateException();
        }
        keep();
        Message m = room.send(0, p, room.conductor);
        m.remembered = room.clock(p);
        return m.isOnItsWay;
    }

    int pass(int ticks) {
        if (ticks < 1 || ticks > 50) {
            throw new IllegalArgumentException();
        }
        keep();
        int before = state(10);
        for (int i = 0; i < ticks; i++) {
            room.tick();
        }
        return state(10) - before;
    }

    boolean power(int p, boolean isUp) {
        checkPlayer(p);
        keep();
        Musician m = room.players.get(p);
        boolean was = m.up;
        m.up = isUp;
        if (!isUp) {
            m.plan = null;
        }
        return was;
    }

    boolean cut(int from, int to, boolean isCut) {
        checkPlayer(from);
        checkPlayer(to);
        int key = from * 10 + to;
        if (!room.delays.containsKey(key)) {
            throw new IllegalStateException();
        }
        keep();
        boolean was = room.cut.contains(key);
        if (isCut) {
            room.cut.add(key);
        } else {
            room.cut.remove(key);
        }
        return was;
    }

    int lead(int p) {
        checkPlayer(p);
        keep();
        int was = room.conductor;
        room.conductor = p;
        for (Musician m : room.players) {
            m.guess = 0;
        }
        return was;
    }

    int undo() {
        if (before.isEmpty()) {
            return -1;
        }
        room = before.removeLast();
        return before.size();
    }

    long checksum() {
        long c = 0;
        for (int what = 0; what <= 12; what++) {
            c = 31 * c + state(what);
        }
        for (int p = 0; p < room.players.size(); p++) {
            for (int what = 0; what <= 9; what++) {
                c = 31 * c + player(p, what);
            }
        }
        int messages = room.onTheirWay().size();
        for (int k = 0; k < messages; k++) {
            for (int what = 0; what <= 5; what++) {
                c = 31 * c + message(k, what);
            }
        }
        if (room.latest() != null) {
            for (int what = 0; what <= 5; what++) {
                c = 31 * c + proposal(what);
            }
            c = 31 * c + spread();
        }
        return c;
    }
}
