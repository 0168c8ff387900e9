import java.util.ArrayList;
import java.util.List;
import java.util.Random;

/** Runs of calls, always the same ones, answered by the class and by the model of it. */
public final class ModelTest {
    private static final int RUNS = 1500;
    // What an object answers after its call 512 is free; a load with its text takes some 35 calls.
    private static final int CALLS = 512 - 40;

    /** A call, so that an exception counts as an answer. */
    private interface Call {
        double answer();
    }

    private final Random random;
    private final OneBeat x = new OneBeat();
    private final Model m = new Model();
    private final List<String> story = new ArrayList<>();
    private int calls;

    private ModelTest(int seed) {
        random = new Random(seed);
    }

    private int below(int bound) {
        return random.nextInt(bound);
    }

    private boolean oneIn(int n) {
        return below(n) == 0;
    }

    private static String answerOf(Call call) {
        try {
            return String.valueOf(call.answer());
        } catch (RuntimeException e) {
            return e.getClass().getSimpleName();
        }
    }

    private boolean same(String name, Call ofClass, Call ofModel) {
        calls++;
        String got = answerOf(ofClass);
        String due = answerOf(ofModel);
        story.add(name + " = " + got);
        Check.holds(name + " answered " + got + ", due is " + due, got.equals(due));
        return got.equals(due);
    }

    private static double number(boolean isTrue) {
        return isTrue ? 1 : 0;
    }

    private String sum(int depth) {
        String[] words = {"players", "delay", "up", "song", "0", "1", "2", "9999", "007", "30"};
        StringBuilder text = new StringBuilder();
        int parts = 1 + below(3);
        for (int i = 0; i < parts; i++) {
            if (i > 0) {
                text.append("+-*/".charAt(below(4)));
            }
            if (depth < 5 && oneIn(4)) {
                text.append("(").append(sum(depth + 1)).append(")");
            } else {
                text.append(words[below(words.length)]);
            }
            if (oneIn(6)) {
                text.append(" ");
            }
        }
        return text.toString();
    }

    private String setup() {
        int players = oneIn(40) ? below(11) : 1 + below(8);
        StringBuilder text = new StringBuilder("players ").append(players).append(";");
        int dense = below(4);
        int longest = 1 + below(9);
        for (int a = 0; a < players; a++) {
            for (int b = a + 1; b < players; b++) {
                if (below(4) <= dense) {
                    text.append("link ").append(a).append(" ").append(b).append(" ");
                    text.append(1 + below(longest)).append(" ").append(1 + below(longest)).append(";");
                }
            }
        }
        int widest = oneIn(3) ? 1000 : 1 + below(30);
        for (int a = 0; a < players; a++) {
            if (oneIn(2)) {
                text.append("clock ").append(a).append(oneIn(2) ? " " : "-").append(below(widest));
                text.append(oneIn(2) ? " " : "-").append(below(51)).append(";");
            }
        }
        if (oneIn(2)) {
            text.append("need ").append(1 + below(Math.max(1, players))).append(";");
        }
        if (oneIn(2)) {
            text.append("patience ").append(1 + below(oneIn(2) ? 200 : 20)).append(";");
        }
        if (oneIn(2)) {
            text.append("margin ").append(sum(0)).append(";");
        }
        return oneIn(4) ? spoilt(text) : text.toString();
    }

    private String spoilt(StringBuilder text) {
        String[] bits = {"(", ")", ";", "-", "9", "0", " ", "a", "need 1;", "link 0 1 1 1;", "clock 0 1 1;",
            "margin ", "players", "\u00e1", "patience 9;", "+", "*", "up", "song", ","};
        int changes = 1 + below(2);
        for (int i = 0; i < changes; i++) {
            int at = below(text.length());
            if (oneIn(2)) {
                text.insert(at, bits[below(bits.length)]);
            } else {
                text.deleteCharAt(at);
            }
        }
        return text.toString();
    }

    private boolean load() {
        String text = setup();
        if (text.length() > 600) {
            return true;
        }
        story.add("text " + text);
        int count = (text.length() + 19) / 20;
        boolean isSame = true;
        for (int i = 0; i < count; i++) {
            int[] w = new int[5];
            for (int k = 0; k < 20; k++) {
                int b = 20 * i + k < text.length() ? text.charAt(20 * i + k) : ' ';
                w[k / 4] = w[k / 4] << 8 | b;
            }
            isSame &= same("append", () -> x.append(w[0], w[1], w[2], w[3], w[4]), () -> m.append(w));
        }
        int length = oneIn(20) ? text.length() - 1 - below(3) : text.length();
        isSame &= same("load " + length, () -> x.load(length), () -> m.load(length));
        return isSame & same("errorOffset", x::errorOffset, m::errorOffset);
    }

    private int somePlayer() {
        return oneIn(60) ? below(12) - 2 : below(m.state(0));
    }

    private boolean change() {
        int p = somePlayer();
        int q = somePlayer();
        boolean on = oneIn(2);
        switch (below(16)) {
            case 0:
            case 1:
            case 2:
                int song = oneIn(40) ? below(104) - 2 : oneIn(2) ? below(4) : below(100);
                return same("propose " + song, () -> x.propose(song), () -> m.propose(song));
            case 3:
            case 4:
            case 5:
                return same("ask " + p, () -> number(x.ask(p)), () -> number(m.ask(p)));
            case 6:
            case 7:
            case 8:
            case 9:
                int ticks = oneIn(40) ? below(60) - 4 : oneIn(6) ? 1 + below(50) : 1 + below(4);
                return same("pass " + ticks, () -> x.pass(ticks), () -> m.pass(ticks));
            case 10:
                boolean isUp = on || oneIn(2);
                return same("power " + p + " " + isUp, () -> number(x.power(p, isUp)), () -> number(m.power(p, isUp)));
            case 11:
                return same("cut " + p + " " + q + " " + on,
                    () -> number(x.cut(p, q, on)), () -> number(m.cut(p, q, on)));
            case 12:
                return !oneIn(2) || same("lead " + p, () -> x.lead(p), () -> m.lead(p));
            case 13:
            case 14:
                return same("undo", x::undo, m::undo);
            default:
                return !oneIn(12) || load();
        }
    }

    private boolean look() {
        int p = somePlayer();
        int q = somePlayer();
        int what = below(16) - 1;
        int k = below(Math.max(1, m.state(3))) + (oneIn(20) ? 1 : 0);
        switch (below(12)) {
            case 0:
                return same("state " + what, () -> x.state(what), () -> m.state(what));
            case 1:
                return same("player " + p + " " + what, () -> x.player(p, what), () -> m.player(p, what));
            case 2:
                return same("link " + p + " " + q, () -> x.link(p, q), () -> m.link(p, q));
            case 3:
                return same("message " + k + " " + what, () -> x.message(k, what), () -> m.message(k, what));
            case 4:
                return same("proposal " + what, () -> x.proposal(what), () -> m.proposal(what));
            case 5:
                return same("spread", x::spread, m::spread);
            case 6:
                int f = below(7) - 1;
                return same("foretold " + f, () -> x.foretold(f), () -> m.foretold(f));
            case 7:
                return !oneIn(4) || same("safest", x::safest, m::safest);
            case 8:
                return same("meanError", x::meanError, m::meanError);
            default:
                return same("checksum", () -> x.checksum(), () -> m.checksum())
                    & same("low half", () -> x.checksum() & 0xffffffffL, () -> m.checksum() & 0xffffffffL);
        }
    }

    private boolean run() {
        boolean isSame = load();
        while (calls < CALLS && isSame) {
            isSame = oneIn(2) ? change() : look();
        }
        return isSame && same("last checksum", () -> x.checksum() % 1000000007, () -> m.checksum() % 1000000007);
    }

    public static void main(String[] args) {
        int from = args.length > 0 ? Integer.parseInt(args[0]) : 1;
        int runs = args.length > 1 ? Integer.parseInt(args[1]) : RUNS;
        for (int seed = from; seed < from + runs; seed++) {
            ModelTest test = new ModelTest(seed);
            if (!test.run()) {
                System.out.println("run " + seed + ":");
                int last = test.story.size();
                for (String row : test.story.subList(Math.max(0, last - 60), last)) {
                    System.out.println("  " + row);
                }
                break;
            }
        }
        Check.end("ModelTest");
    }
}
