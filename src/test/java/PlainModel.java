import java.util.ArrayDeque;
import java.util.ArrayList;
import java.util.Arrays;
import java.util.Comparator;
import java.util.Deque;
import java.util.List;
import java.util.regex.Matcher;
import java.util.regex.Pattern;

/**
 * The document once more, written as plainly as the Java library allows and by other ways than
 * the class itself takes, so that ModelTest can set the two side by side.
 */
final class PlainModel {
    static final int NONE = -9;

    enum Kind { EMPTY, CLAIM, FINISHED }

    record Note(Kind kind, int owner, int distance, int expiry) {
        static final Note BLANK = new Note(Kind.EMPTY, NONE, NONE, NONE);
        static final Note DONE = new Note(Kind.FINISHED, NONE, NONE, NONE);

        boolean live(int clock) {
            return kind == Kind.CLAIM && expiry > clock;
        }

        boolean dead(int clock) {
            return kind == Kind.CLAIM && expiry <= clock;
        }
    }

    static final class Agent {
        int x, y, range, moves, wasted;
        boolean on = true;
        Note[] notes;

        Agent copy() {
            Agent c = new Agent();
            c.x = x;
            c.y = y;
            c.range = range;
            c.moves = moves;
            c.wasted = wasted;
            c.on = on;
            c.notes = notes.clone();
            return c;
        }
    }

    static final class Task {
        int x, y, work, progress;

        Task copy() {
            Task c = new Task();
            c.x = x;
            c.y = y;
            c.work = work;
            c.progress = progress;
            return c;
        }
    }

    static final class State {
        List<Agent> agents = new ArrayList<>();
        List<Task> tasks = new ArrayList<>();
        int lifetime = 5;
        int clock;

        State copy() {
            State c = new State();
            for (Agent a : agents) {
                c.agents.add(a.copy());
            }
            for (Task t : tasks) {
                c.tasks.add(t.copy());
            }
            c.lifetime = lifetime;
            c.clock = clock;
            return c;
        }
    }

    private static final Pattern TEXT = Pattern.compile(
            "C(?:0[1-9]|1[0-9]|20)"
                    + "(?:a(?:0[0-9]|1[01])(?:0[0-9]|1[01])(?:[01][0-9]|2[0-2])"
                    + "|t(?:0[0-9]|1[01])(?:0[0-9]|1[01])[1-9])*");

    private String text = "";
    private State s = new State();
    private Deque<State> remembered = new ArrayDeque<>();
    private final State[] slots = new State[2];

    // ---- text

    int append(int c) {
        argument(c >= 0 && c <= 255);
        state(text.length() < 120);
        text += (char) c;
        return text.length();
    }

    int clearText() {
        int n = text.length();
        text = "";
        return n;
    }

    int errorPosition() {
        for (int n = 1; n <= text.length(); n++) {
            if (!canGoOn(text.substring(0, n))) {
                return n - 1;
            }
        }
        return TEXT.matcher(text).matches() ? NONE : text.length();
    }

    private static boolean canGoOn(String start) {
        Matcher m = TEXT.matcher(start);
        boolean fits = m.matches() || m.hitEnd();
        return fits && start.chars().filter(c -> c == 'a').count() <= 6
                && start.chars().filter(c -> c == 't').count() <= 8;
    }

    int load() {
        state(errorPosition() == NONE);
        s = new State();
        s.lifetime = Integer.parseInt(text.substring(1, 3));
        Matcher m = Pattern.compile("a(..)(..)(..)|t(..)(..)(.)").matcher(text.substring(3));
        while (m.find()) {
            if (m.group(1) != null) {
                Agent a = new Agent();
                a.x = Integer.parseInt(m.group(1));
                a.y = Integer.parseInt(m.group(2));
                a.range = Integer.parseInt(m.group(3));
                s.agents.add(a);
            } else {
                Task t = new Task();
                t.x = Integer.parseInt(m.group(4));
                t.y = Integer.parseInt(m.group(5));
                t.work = Integer.parseInt(m.group(6));
                s.tasks.add(t);
            }
        }
        for (Agent a : s.agents) {
            a.notes = new Note[s.tasks.size()];
            Arrays.fill(a.notes, Note.BLANK);
        }
        remembered.clear();
        Arrays.fill(slots, null);
        return s.agents.size();
    }

    // ---- what there is

    int about(int what) {
        argument(what >= 0 && what <= 7);
        return switch (what) {
            case 0 -> s.agents.size();
            case 1 -> s.tasks.size();
            case 2 -> s.clock;
            case 3 -> s.lifetime;
            case 4 -> finished(s);
            case 5 -> s.agents.stream().mapToInt(a -> a.moves).sum();
            case 6 -> wastedSum(s);
            default -> setOf(s, i -> s.agents.get(i).on);
        };
    }

    int agent(int i, int what) {
        index(i >= 0 && i < s.agents.size());
        argument(what >= 0 && what <= 7);
        Agent a = s.agents.get(i);
        return switch (what) {
            case 0 -> a.x;
            case 1 -> a.y;
            case 2 -> a.range;
            case 3 -> a.on ? 1 : 0;
            case 4 -> own(s, i).isEmpty() ? NONE : own(s, i).get(0);
            case 5 -> a.moves;
            case 6 -> a.wasted;
            default -> setOf(s, j -> hear(s, i, j));
        };
    }

    int task(int t, int what) {
        index(t >= 0 && t < s.tasks.size());
        argument(what >= 0 && what <= 6);
        Task k = s.tasks.get(t);
        return switch (what) {
            case 0 -> k.x;
            case 1 -> k.y;
            case 2 -> k.work;
            case 3 -> k.progress;
            case 4 -> k.progress == k.work ? 1 : 0;
            case 5 -> setOf(s, i -> s.agents.get(i).notes[t].kind() == Kind.FINISHED);
            default -> claimants(s, t);
        };
    }

    int note(int a, int t, int what) {
        index(a >= 0 && a < s.agents.size() && t >= 0 && t < s.tasks.size());
        argument(what >= 0 && what <= 3);
        Note n = s.agents.get(a).notes[t];
        return switch (what) {
            case 0 -> n.kind().ordinal();
            case 1 -> n.owner();
            case 2 -> n.distance();
            default -> n.expiry();
        };
    }

    // ---- actions

    int step(int n) {
        argument(n >= 1 && n <= 99);
        remember();
        steps(s, n);
        return finished(s);
    }

    int setRange(int a, int r) {
        index(a >= 0 && a < s.agents.size());
        argument(r >= 0 && r <= 22);
        remember();
        int old = s.agents.get(a).range;
        s.agents.get(a).range = r;
        return old;
    }

    int put(int a, int x, int y) {
        index(a >= 0 && a < s.agents.size());
        argument(x >= 0 && x <= 11 && y >= 0 && y <= 11);
        remember();
        Agent g = s.agents.get(a);
        int way = Math.abs(g.x - x) + Math.abs(g.y - y);
        g.x = x;
        g.y = y;
        return way;
    }

    int toggle(int a) {
        index(a >= 0 && a < s.agents.size());
        remember();
        s.agents.get(a).on = !s.agents.get(a).on;
        return (int) s.agents.stream().filter(g -> g.on).count();
    }

    int handOver(int a, int b) {
        index(a >= 0 && a < s.agents.size() && b >= 0 && b < s.agents.size());
        argument(a != b);
        state(hear(s, a, b) && !own(s, a).isEmpty() && own(s, b).isEmpty());
        remember();
        int t = own(s, a).get(0);
        Note n = new Note(Kind.CLAIM, b, way(s, b, t), s.clock + s.lifetime);
        s.agents.get(a).notes[t] = n;
        s.agents.get(b).notes[t] = n;
        return t;
    }

    int drop(int a) {
        index(a >= 0 && a < s.agents.size());
        remember();
        int count = 0;
        Note[] notes = s.agents.get(a).notes;
        for (int t = 0; t < notes.length; t++) {
            if (notes[t].kind() == Kind.CLAIM && notes[t].owner() == a) {
                notes[t] = Note.BLANK;
                count++;
            }
        }
        return count;
    }

    int setLifetime(int v) {
        argument(v >= 1 && v <= 20);
        remember();
        int old = s.lifetime;
        s.lifetime = v;
        return old;
    }

    int undo() {
        state(!remembered.isEmpty());
        s = remembered.removeLast();
        return remembered.size();
    }

    // ---- who hears whom

    int hops(int a, int b) {
        int n = s.agents.size();
        index(a >= 0 && a < n && b >= 0 && b < n);
        int[][] d = new int[n][n];
        for (int i = 0; i < n; i++) {
            for (int j = 0; j < n; j++) {
                d[i][j] = i == j ? 0 : hear(s, i, j) ? 1 : 99;
            }
        }
        for (int k = 0; k < n; k++) {
            for (int i = 0; i < n; i++) {
                for (int j = 0; j < n; j++) {
                    d[i][j] = Math.min(d[i][j], d[i][k] + d[k][j]);
                }
            }
        }
        return d[a][b] >= 99 ? NONE : d[a][b];
    }

    int groups() {
        int count = 0;
        for (int i = 0; i < s.agents.size(); i++) {
            boolean first = s.agents.get(i).on;
            for (int j = 0; j < i; j++) {
                first = first && hops(j, i) == NONE;
            }
            count += first ? 1 : 0;
        }
        return count;
    }

    int rangeNeeded() {
        // The longest edge of a smallest spanning tree.
        List<Agent> out = new ArrayList<>(s.agents.stream().filter(a -> a.on).toList());
        List<Agent> in = new ArrayList<>();
        int longest = 0;
        if (!out.isEmpty()) {
            in.add(out.remove(0));
        }
        while (!out.isEmpty()) {
            Agent next = out.stream().min(Comparator.comparingInt(o -> nearest(o, in))).get();
            longest = Math.max(longest, nearest(next, in));
            out.remove(next);
            in.add(next);
        }
        return longest;
    }

    private static int nearest(Agent a, List<Agent> in) {
        return in.stream().mapToInt(b -> Math.abs(a.x - b.x) + Math.abs(a.y - b.y)).min().getAsInt();
    }

    // ---- claims, forecasts

    int conflicts(int what) {
        argument(what >= 0 && what <= 2);
        return what == 0 ? doubles(s) : what == 1 ? unknown() : lost();
    }

    private int unknown() {
        int count = 0;
        for (Agent a : s.agents) {
            for (int t = 0; t < s.tasks.size(); t++) {
                Task k = s.tasks.get(t);
                if (a.on && k.progress == k.work && a.notes[t].kind() != Kind.FINISHED) {
                    count++;
                }
            }
        }
        return count;
    }

    private int lost() {
        int count = 0;
        for (Agent a : s.agents) {
            for (Note n : a.notes) {
                if (a.on && n.live(s.clock) && !s.agents.get(n.owner()).on) {
                    count++;
                }
            }
        }
        return count;
    }

    int finishedAfter(int k) {
        argument(k >= 0 && k <= 8);
        for (int n = 0; n <= 150; n++) {
            if (finished(after(n)) >= k) {
                return n;
            }
        }
        return NONE;
    }

    int knownAfter(int t) {
        index(t >= 0 && t < s.tasks.size());
        for (int n = 0; n <= 150; n++) {
            if (after(n).agents.stream().allMatch(a -> !a.on || a.notes[t].kind() == Kind.FINISHED)) {
                return n;
            }
        }
        return NONE;
    }

    private State forecast;
    private int forecastSteps;

    /** The state after n steps; asked for with n = 0, 1, 2 and so on. */
    private State after(int n) {
        if (n == 0) {
            forecast = s.copy();
            forecastSteps = 0;
        }
        steps(forecast, n - forecastSteps);
        forecastSteps = n;
        return forecast;
    }

    int wastedIf(int r, int n) {
        argument(r >= 0 && r <= 22 && n >= 1 && n <= 99);
        State c = s.copy();
        c.agents.forEach(a -> a.range = r);
        steps(c, n);
        return wastedSum(c);
    }

    int worstLoss(int n) {
        argument(n >= 1 && n <= 99);
        List<int[]> found = new ArrayList<>();
        for (int i = 0; i < s.agents.size(); i++) {
            if (s.agents.get(i).on) {
                State c = s.copy();
                c.agents.get(i).on = false;
                steps(c, n);
                found.add(new int[] {progressSum(c), i});
            }
        }
        found.sort(Comparator.<int[]>comparingInt(f -> f[0]).thenComparingInt(f -> f[1]));
        return found.isEmpty() ? NONE : found.get(0)[1];
    }

    int bestShare(int a) {
        index(a >= -1 && a < s.agents.size());
        best = null;
        tryAll(new int[s.agents.size()], 0);
        if (a == -1) {
            return best[1];
        }
        return best[2 + a] == 8 ? NONE : best[2 + a];
    }

    private int[] best;

    /** Looks at every way to share: first the pairs (fewer is worse), the distances, the tasks. */
    private void tryAll(int[] share, int i) {
        if (i == share.length) {
            int[] found = new int[2 + i];
            for (int j = 0; j < i; j++) {
                found[2 + j] = share[j];
                if (share[j] < 8) {
                    found[0]--;
                    found[1] += way(s, j, share[j]);
                }
            }
            if (best == null || Arrays.compare(found, best) < 0) {
                best = found;
            }
            return;
        }
        for (int t = 0; t <= 8; t++) {
            int task = t;
            boolean may = t == 8 || s.agents.get(i).on && t < s.tasks.size()
                    && s.tasks.get(t).progress < s.tasks.get(t).work
                    && Arrays.stream(share, 0, i).noneMatch(u -> u == task);
            if (may) {
                share[i] = t;
                tryAll(share, i + 1);
            }
        }
    }

    // ---- scripts, simulations

    int runScript(int n, long script) {
        argument(n >= 1 && n <= 3 && script >= 0 && Long.toString(script).length() <= 5 * n);
        String digits = "0".repeat(5 * n - Long.toString(script).length()) + script;
        State kept = s;
        Deque<State> keptStates = remembered;
        s = s.copy();
        remembered = new ArrayDeque<>();
        int failed = NONE;
        for (int i = 0; i < n && failed == NONE; i++) {
            if (!command(digits.substring(5 * i, 5 * i + 5))) {
                failed = i;
            }
        }
        s = kept;
        remembered = keptStates;
        return failed;
    }

    private boolean command(String c) {
        int a = c.charAt(1) - '0';
        int xy = Integer.parseInt(c.substring(3));
        int last = c.charAt(4) - '0';
        try {
            if (c.matches("100..")) {
                step(xy);
                return true;
            } else if (c.matches("2.0..")) {
                setRange(a, xy);
                return true;
            } else if (c.matches("3.000")) {
                toggle(a);
                return true;
            } else if (c.matches("4..00")) {
                handOver(a, c.charAt(2) - '0');
                return true;
            } else if (c.matches("5.000")) {
                drop(a);
                return true;
            } else if (c.matches("6000.")) {
                return about(4) == last;
            } else if (c.matches("7.00.")) {
                return agent(a, 4) == last;
            } else if (c.matches("8000.")) {
                return conflicts(0) == last;
            } else if (c.matches("900..")) {
                return about(6) <= xy;
            }
            return false;
        } catch (RuntimeException e) {
            return false;
        }
    }

    int simulate(long seed, int m) {
        argument(m >= 1 && m <= 60);
        State c = s.copy();
        long x = seed;
        for (int i = 0; i < m; i++) {
            x = x * 6364136223846793005L + 1442695040888963407L;
            int r = (int) (x >>> 33);
            if (!c.agents.isEmpty()) {
                Agent a = c.agents.get(r / 8 % c.agents.size());
                if (r % 8 == 0) {
                    a.on = !a.on;
                } else if (r % 8 == 1) {
                    a.range = r / 64 % 23;
                } else if (r % 8 == 2) {
                    a.x = r / 64 % 12;
                    a.y = r / 1024 % 12;
                }
            }
            steps(c, 1);
        }
        return progressSum(c) + 100 * wastedSum(c);
    }

    // ---- save slots

    int save(int slot) {
        index(slot == 0 || slot == 1);
        slots[slot] = s.copy();
        return s.clock;
    }

    int restore(int slot) {
        index(slot == 0 || slot == 1);
        state(slots[slot] != null);
        s = slots[slot].copy();
        remembered.clear();
        return s.clock;
    }

    // ---- a step

    private static void steps(State c, int n) {
        for (int i = 0; i < n; i++) {
            List<Note[]> before = c.agents.stream().map(a -> a.notes.clone()).toList();
            forAllOn(c, i2 -> compare(c, i2, before));
            forAllOn(c, i2 -> choose(c, i2));
            forAllOn(c, i2 -> act(c, i2));
            c.clock++;
        }
    }

    private static void forAllOn(State c, java.util.function.IntConsumer part) {
        for (int i = 0; i < c.agents.size(); i++) {
            if (c.agents.get(i).on) {
                part.accept(i);
            }
        }
    }

    private static void compare(State c, int i, List<Note[]> before) {
        for (int t = 0; t < c.tasks.size(); t++) {
            List<Note> found = new ArrayList<>();
            found.add(before.get(i)[t]);
            for (int j = 0; j < c.agents.size(); j++) {
                if (hear(c, i, j)) {
                    found.add(before.get(j)[t]);
                }
            }
            Note taken = null;
            for (Note n : found) {
                if (taken == null && found.stream().noneMatch(o -> better(o, n, c.clock))) {
                    taken = n;
                }
            }
            c.agents.get(i).notes[t] = taken.dead(c.clock) ? Note.BLANK : taken;
        }
    }

    /** The rules of NOTES, one after the other. */
    static boolean better(Note p, Note q, int clock) {
        if ((p.kind() == Kind.FINISHED) != (q.kind() == Kind.FINISHED)) {
            return p.kind() == Kind.FINISHED;
        }
        if (p.live(clock) && (q.kind() == Kind.EMPTY || q.dead(clock))) {
            return true;
        }
        if (p.live(clock) && q.live(clock)) {
            return Arrays.compare(new int[] {p.distance(), p.owner(), -p.expiry()},
                    new int[] {q.distance(), q.owner(), -q.expiry()}) < 0;
        }
        return false;
    }

    private static void choose(State c, int i) {
        Note[] notes = c.agents.get(i).notes;
        Comparator<Integer> byWay = Comparator.<Integer>comparingInt(t -> way(c, i, t)).thenComparingInt(t -> t);
        List<Integer> own = own(c, i);
        Integer kept = own.stream().min(byWay).orElse(null);
        for (int t : own) {
            if (t != kept) {
                notes[t] = Note.BLANK;
            }
        }
        if (kept == null) {
            List<Integer> blank = new ArrayList<>();
            for (int t = 0; t < notes.length; t++) {
                if (notes[t].kind() == Kind.EMPTY) {
                    blank.add(t);
                }
            }
            kept = blank.stream().min(byWay).orElse(null);
        }
        if (kept != null) {
            notes[kept] = new Note(Kind.CLAIM, i, way(c, i, kept), c.clock + c.lifetime);
        }
    }

    private static void act(State c, int i) {
        if (own(c, i).isEmpty()) {
            return;
        }
        int t = own(c, i).get(0);
        Agent a = c.agents.get(i);
        Task k = c.tasks.get(t);
        if (a.x == k.x && a.y == k.y) {
            if (k.progress == k.work) {
                a.notes[t] = Note.DONE;
                a.wasted++;
            } else {
                k.progress++;
                if (k.progress == k.work) {
                    a.notes[t] = Note.DONE;
                }
            }
            return;
        }
        if (a.x != k.x) {
            a.x += Integer.signum(k.x - a.x);
        } else {
            a.y += Integer.signum(k.y - a.y);
        }
        a.moves++;
    }

    // ---- small things

    private static boolean hear(State c, int i, int j) {
        Agent a = c.agents.get(i);
        Agent b = c.agents.get(j);
        int way = Math.abs(a.x - b.x) + Math.abs(a.y - b.y);
        return i != j && a.on && b.on && way <= a.range && way <= b.range;
    }

    private static List<Integer> own(State c, int i) {
        List<Integer> own = new ArrayList<>();
        Note[] notes = c.agents.get(i).notes;
        for (int t = 0; t < notes.length; t++) {
            if (notes[t].live(c.clock) && notes[t].owner() == i) {
                own.add(t);
            }
        }
        return own;
    }

    private static int claimants(State c, int t) {
        return setOf(c, i -> c.agents.get(i).on && own(c, i).contains(t));
    }

    private static int doubles(State c) {
        int count = 0;
        for (int t = 0; t < c.tasks.size(); t++) {
            count += Integer.bitCount(claimants(c, t)) > 1 ? 1 : 0;
        }
        return count;
    }

    private static int way(State c, int i, int t) {
        return Math.abs(c.agents.get(i).x - c.tasks.get(t).x) + Math.abs(c.agents.get(i).y - c.tasks.get(t).y);
    }

    private static int finished(State c) {
        return (int) c.tasks.stream().filter(t -> t.progress == t.work).count();
    }

    private static int progressSum(State c) {
        return c.tasks.stream().mapToInt(t -> t.progress).sum();
    }

    private static int wastedSum(State c) {
        return c.agents.stream().mapToInt(a -> a.wasted).sum();
    }

    private static int setOf(State c, java.util.function.IntPredicate has) {
        int set = 0;
        for (int i = 0; i < c.agents.size(); i++) {
            set += has.test(i) ? 1 << i : 0;
        }
        return set;
    }

    private void remember() {
        remembered.addLast(s.copy());
        if (remembered.size() > 14) {
            remembered.removeFirst();
        }
    }

    private static void index(boolean fine) {
        if (!fine) {
            throw new IndexOutOfBoundsException();
        }
    }

    private static void argument(boolean fine) {
        if (!fine) {
            throw new IllegalArgumentException();
        }
    }

    private static void state(boolean fine) {
        if (!fine) {
            throw new IllegalStateException();
        }
    }
}
