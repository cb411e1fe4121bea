/**
 * Agents on a grid that share tasks by claims over short radio ranges.
 *
 * <p>Every row that a call needs is made once, with the object, and used again: no call makes
 * anything but the exception that it throws.
 */
public final class ClaimedTasks {
    /** There is no such result. */
    public static final int NONE = -9;

    private static final int SIDE = 12;
    private static final int MAX_AGENTS = 6;
    private static final int MAX_TASKS = 8;
    private static final int MAX_RANGE = 22;
    private static final int MAX_LIFETIME = 20;
    private static final int FIRST_LIFETIME = 5;
    private static final int MAX_TEXT = 120;
    private static final int MAX_CODE = 255;
    private static final int MAX_REMEMBERED = 14;
    private static final int SLOTS = 2;
    private static final int MAX_STEPS = 99;
    private static final int FORECAST_STEPS = 150;
    private static final int MAX_COMMANDS = 3;
    private static final int COMMAND_BASE = 100000;
    private static final int MAX_ROUNDS = 60;

    private static final int EMPTY = 0;
    private static final int CLAIM = 1;
    private static final int SAYS_FINISHED = 2;

    private final Text text;
    private final World state;
    private final World trial;
    private final History history;
    private final World[] slots;
    private int filledSlots;
    private final Stepper stepper;
    private final Commands commands;
    private final Sharing sharing;

    /** Creates a grid without agents and tasks. */
    public ClaimedTasks() {
        text = new Text();
        state = new World();
        trial = new World();
        history = new History();
        slots = new World[SLOTS];
        for (int i = 0; i < SLOTS; i++) {
            slots[i] = new World();
        }
        filledSlots = 0;
        stepper = new Stepper();
        commands = new Commands(stepper);
        sharing = new Sharing();
    }

    // ---- text

    /** Appends a character to the text buffer; returns the new length. */
    public int append(int c) throws IllegalArgumentException, IllegalStateException {
        requireBetween(c, 0, MAX_CODE);
        requireState(text.hasRoom());
        text.add(c);
        return text.length;
    }

    /** Empties the text buffer; returns its previous length. */
    public int clearText() {
        int previous = text.length;
        text.length = 0;
        return previous;
    }

    /** Returns the error position of the text, NONE if it has none. */
    public int errorPosition() {
        return text.readInto(trial);
    }

    /** Replaces everything by what the text describes; returns the number of agents. */
    public int load() throws IllegalStateException {
        requireState(text.readInto(trial) == NONE);
        state.copyFrom(trial);
        history.forget();
        filledSlots = 0;
        return state.agents;
    }

    // ---- what there is

    /** Returns a number of the whole. */
    public int about(int what) throws IllegalArgumentException {
        requireBetween(what, 0, 7);
        switch (what) {
            case 0:
                return state.agents;
            case 1:
                return state.tasks;
            case 2:
                return state.clock;
            case 3:
                return state.lifetime;
            case 4:
                return state.finishedTasks();
            case 5:
                return state.allMoves();
            case 6:
                return state.allWasted();
            default:
                return state.onSet;
        }
    }

    /** Returns a number of an agent. */
    public int agent(int a, int what) throws IndexOutOfBoundsException, IllegalArgumentException {
        requireIndex(state.hasAgent(a));
        requireBetween(what, 0, 7);
        switch (what) {
            case 0:
                return state.x[a];
            case 1:
                return state.y[a];
            case 2:
                return state.range[a];
            case 3:
                return state.isOn(a) ? 1 : 0;
            case 4:
                return state.ownTask(a);
            case 5:
                return state.moves[a];
            case 6:
                return state.wasted[a];
            default:
                return state.heardBy(a);
        }
    }

    /** Returns a number of a task. */
    public int task(int t, int what) throws IndexOutOfBoundsException, IllegalArgumentException {
        requireIndex(state.hasTask(t));
        requireBetween(what, 0, 6);
        switch (what) {
            case 0:
                return state.taskX[t];
            case 1:
                return state.taskY[t];
            case 2:
                return state.work[t];
            case 3:
                return state.progress[t];
            case 4:
                return state.isFinished(t) ? 1 : 0;
            case 5:
                return state.knowers(t);
            default:
                return state.claimants(t);
        }
    }

    /** Returns a number of a note. */
    public int note(int a, int t, int what) throws IndexOutOfBoundsException, IllegalArgumentException {
        requireIndex(state.hasAgent(a) && state.hasTask(t));
        requireBetween(what, 0, 3);
        int i = noteIndex(a, t);
        if (what == 0) {
            return state.notes.kind[i];
        }
        if (state.notes.kind[i] != CLAIM) {
            return NONE;
        }
        switch (what) {
            case 1:
                return state.notes.owner[i];
            case 2:
                return state.notes.distance[i];
            default:
                return state.notes.expiry[i];
        }
    }

    // ---- actions

    /** Makes n steps; returns the number of finished tasks then. */
    public int step(int n) throws IllegalArgumentException {
        requireBetween(n, 1, MAX_STEPS);
        history.remember(state);
        stepper.makeSteps(state, n);
        return state.finishedTasks();
    }

    /** Changes the range of an agent; returns the previous one. */
    public int setRange(int a, int r) throws IndexOutOfBoundsException, IllegalArgumentException {
        requireIndex(state.hasAgent(a));
        requireBetween(r, 0, MAX_RANGE);
        history.remember(state);
        int previous = state.range[a];
        state.range[a] = r;
        return previous;
    }

    /** Puts an agent at another place; returns the distance from the previous one. */
    public int put(int a, int x, int y) throws IndexOutOfBoundsException, IllegalArgumentException {
        requireIndex(state.hasAgent(a));
        requireBetween(x, 0, SIDE - 1);
        requireBetween(y, 0, SIDE - 1);
        history.remember(state);
        int way = distanceOf(state.x[a], state.y[a], x, y);
        state.placeAgent(a, x, y);
        return way;
    }

    /** Switches an agent on or off; returns the number of agents that are on then. */
    public int toggle(int a) throws IndexOutOfBoundsException {
        requireIndex(state.hasAgent(a));
        history.remember(state);
        state.switchAgent(a);
        return Integer.bitCount(state.onSet);
    }

    /** Hands the claim of a over to b; returns the task. */
    public int handOver(int a, int b)
            throws IndexOutOfBoundsException, IllegalArgumentException, IllegalStateException {
        requireIndex(state.hasAgent(a) && state.hasAgent(b));
        requireArgument(a != b);
        requireState(state.canPassClaim(a, b));
        history.remember(state);
        int t = state.ownTask(a);
        state.passClaim(a, b);
        return t;
    }

    /** Lets an agent drop its claims; returns how many these were. */
    public int drop(int a) throws IndexOutOfBoundsException {
        requireIndex(state.hasAgent(a));
        history.remember(state);
        return state.dropClaims(a);
    }

    /** Changes the lifetime; returns the previous one. */
    public int setLifetime(int v) throws IllegalArgumentException {
        requireBetween(v, 1, MAX_LIFETIME);
        history.remember(state);
        int previous = state.lifetime;
        state.lifetime = v;
        return previous;
    }

    /** Takes back the last action that is remembered; returns how many states still are. */
    public int undo() throws IllegalStateException {
        requireState(history.count > 0);
        history.takeBack(state);
        return history.count;
    }

    // ---- who hears whom

    /** Returns how often a message from a to b has to be passed on, NONE if it can't be. */
    public int hops(int a, int b) throws IndexOutOfBoundsException {
        requireIndex(state.hasAgent(a) && state.hasAgent(b));
        int reached = 1 << a;
        for (int n = 0; n < MAX_AGENTS; n++) {
            if (isIn(reached, b)) {
                return n;
            }
            reached = state.passedOn(reached);
        }
        return NONE;
    }

    /** Returns the number of groups of agents that are on. */
    public int groups() {
        return state.groupCount();
    }

    /** Returns the smallest range with which all agents that are on would be one group. */
    public int rangeNeeded() {
        trial.copyFrom(state);
        for (int r = 0; r < MAX_RANGE; r++) {
            trial.setAllRanges(r);
            if (trial.groupCount() <= 1) {
                return r;
            }
        }
        return MAX_RANGE;
    }

    // ---- claims, forecasts

    /** Returns a number of conflicts. */
    public int conflicts(int what) throws IllegalArgumentException {
        requireBetween(what, 0, 2);
        switch (what) {
            case 0:
                return state.doublyClaimed();
            case 1:
                return state.unknownFinishes();
            default:
                return state.claimsOfLostAgents();
        }
    }

    /** Returns after how many steps at least k tasks are finished, NONE if not within 150. */
    public int finishedAfter(int k) throws IllegalArgumentException {
        requireBetween(k, 0, MAX_TASKS);
        trial.copyFrom(state);
        for (int n = 0; n <= FORECAST_STEPS; n++) {
            if (trial.finishedTasks() >= k) {
                return n;
            }
            stepper.makeSteps(trial, 1);
        }
        return NONE;
    }

    /** Returns after how many steps all agents that are on know that a task is finished. */
    public int knownAfter(int t) throws IndexOutOfBoundsException {
        requireIndex(state.hasTask(t));
        trial.copyFrom(state);
        for (int n = 0; n <= FORECAST_STEPS; n++) {
            if (trial.isKnownToAll(t)) {
                return n;
            }
            stepper.makeSteps(trial, 1);
        }
        return NONE;
    }

    /** Returns the wasted steps after n steps if all agents had the range r. */
    public int wastedIf(int r, int n) throws IllegalArgumentException {
        requireBetween(r, 0, MAX_RANGE);
        requireBetween(n, 1, MAX_STEPS);
        trial.copyFrom(state);
        trial.setAllRanges(r);
        stepper.makeSteps(trial, n);
        return trial.allWasted();
    }

    /** Returns the agent without which least would be done after n steps, NONE if none is on. */
    public int worstLoss(int n) throws IllegalArgumentException {
        requireBetween(n, 1, MAX_STEPS);
        int worst = NONE;
        int least = 0;
        for (int a = 0; a < state.agents; a++) {
            if (state.isOn(a)) {
                int done = progressWithout(a, n);
                if (worst == NONE || done < least) {
                    worst = a;
                    least = done;
                }
            }
        }
        return worst;
    }

    private int progressWithout(int a, int n) {
        trial.copyFrom(state);
        trial.switchAgent(a);
        stepper.makeSteps(trial, n);
        return trial.allProgress();
    }

    /** Returns the task of an agent in the best sharing, or for -1 the sum of its distances. */
    public int bestShare(int a) throws IndexOutOfBoundsException {
        requireIndex(a == -1 || state.hasAgent(a));
        sharing.findBest(state);
        return a == -1 ? sharing.distanceSum : sharing.taskOf[a];
    }

    // ---- scripts, simulations

    /** Runs n commands on a copy of the state; returns the first that fails, NONE if none does. */
    public int runScript(int n, long script) throws IllegalArgumentException {
        requireBetween(n, 1, MAX_COMMANDS);
        long unit = 1;
        for (int i = 0; i < n; i++) {
            unit *= COMMAND_BASE;
        }
        requireArgument(script >= 0 && script < unit);
        trial.copyFrom(state);
        for (int i = 0; i < n; i++) {
            unit /= COMMAND_BASE;
            int group = (int) (script / unit % COMMAND_BASE);
            if (!commands.succeeds(trial, group)) {
                return i;
            }
        }
        return NONE;
    }

    /** Simulates m rounds with chance events on a copy of the state; returns what came of it. */
    public int simulate(long seed, int m) throws IllegalArgumentException {
        requireBetween(m, 1, MAX_ROUNDS);
        trial.copyFrom(state);
        long x = seed;
        for (int i = 0; i < m; i++) {
            x = x * 6364136223846793005L + 1442695040888963407L;
            disturb(trial, (int) (x >>> 33));
            stepper.makeSteps(trial, 1);
        }
        return trial.allProgress() + 100 * trial.allWasted();
    }

    private static void disturb(World w, int r) {
        if (w.agents <= 0) {
            return;
        }
        int a = r / 8 % w.agents;
        switch (r % 8) {
            case 0:
                w.switchAgent(a);
                break;
            case 1:
                w.range[a] = r / 64 % (MAX_RANGE + 1);
                break;
            case 2:
                w.placeAgent(a, r / 64 % SIDE, r / 1024 % SIDE);
                break;
            default:
                break;
        }
    }

    // ---- save slots

    /** Stores the present state in a slot; returns the clock. */
    public int save(int slot) throws IndexOutOfBoundsException {
        requireIndex(slot >= 0 && slot < SLOTS);
        slots[slot].copyFrom(state);
        filledSlots |= 1 << slot;
        return state.clock;
    }

    /** Replaces the state by the one in a slot; returns the clock then. */
    public int restore(int slot) throws IndexOutOfBoundsException, IllegalStateException {
        requireIndex(slot >= 0 && slot < SLOTS);
        requireState(isIn(filledSlots, slot));
        state.copyFrom(slots[slot]);
        history.forget();
        return state.clock;
    }

    // ---- what all of it rests on

    private static void requireIndex(boolean exists) {
        if (!exists) {
            throw new IndexOutOfBoundsException("there is no such agent, task or slot");
        }
    }

    private static void requireBetween(int value, int low, int high) {
        requireArgument(value >= low && value <= high);
    }

    private static void requireArgument(boolean allowed) {
        if (!allowed) {
            throw new IllegalArgumentException("an argument is out of its range");
        }
    }

    private static void requireState(boolean allowed) {
        if (!allowed) {
            throw new IllegalStateException("the present state does not allow this call");
        }
    }

    private static int distanceOf(int x1, int y1, int x2, int y2) {
        int columns = x1 < x2 ? x2 - x1 : x1 - x2;
        int rows = y1 < y2 ? y2 - y1 : y1 - y2;
        return columns + rows;
    }

    private static boolean isIn(int set, int i) {
        return (set >> i & 1) == 1;
    }

    private static int noteIndex(int a, int t) {
        return a * MAX_TASKS + t;
    }

    /** The notes of all agents; the one of agent a for task t stands at noteIndex(a, t). */
    private static final class Notes {
        final int[] kind = new int[MAX_AGENTS * MAX_TASKS];
        final int[] owner = new int[MAX_AGENTS * MAX_TASKS];
        final int[] distance = new int[MAX_AGENTS * MAX_TASKS];
        final int[] expiry = new int[MAX_AGENTS * MAX_TASKS];

        void makeAllEmpty() {
            for (int i = 0; i < kind.length; i++) {
                kind[i] = EMPTY;
            }
        }

        void copyFrom(Notes from) {
            System.arraycopy(from.kind, 0, kind, 0, kind.length);
            System.arraycopy(from.owner, 0, owner, 0, owner.length);
            System.arraycopy(from.distance, 0, distance, 0, distance.length);
            System.arraycopy(from.expiry, 0, expiry, 0, expiry.length);
        }

        void copyOne(int to, Notes from, int i) {
            kind[to] = from.kind[i];
            owner[to] = from.owner[i];
            distance[to] = from.distance[i];
            expiry[to] = from.expiry[i];
        }

        void makeClaim(int i, int newOwner, int newDistance, int newExpiry) {
            kind[i] = CLAIM;
            owner[i] = newOwner;
            distance[i] = newDistance;
            expiry[i] = newExpiry;
        }

        boolean isClaimOf(int i, int a) {
            return kind[i] == CLAIM && owner[i] == a;
        }

        boolean isExpiredClaim(int i, int clock) {
            return kind[i] == CLAIM && expiry[i] <= clock;
        }

        boolean isLiveClaim(int i, int clock) {
            return kind[i] == CLAIM && expiry[i] > clock;
        }

        /** Tells if note i is better than note j, both of the same task. */
        boolean isBetter(int i, int j, int clock) {
            // An expired claim is worth no more than an empty note.
            int kindOfI = isExpiredClaim(i, clock) ? EMPTY : kind[i];
            int kindOfJ = isExpiredClaim(j, clock) ? EMPTY : kind[j];
            if (kindOfI != kindOfJ) {
                return kindOfI > kindOfJ;
            }
            if (kindOfI != CLAIM) {
                return false;
            }
            if (distance[i] != distance[j]) {
                return distance[i] < distance[j];
            }
            if (owner[i] != owner[j]) {
                return owner[i] < owner[j];
            }
            return expiry[i] > expiry[j];
        }
    }

    /** A state: the agents, their notes, the tasks, the lifetime and the clock. */
    private static final class World {
        int agents;
        int tasks;
        int lifetime = FIRST_LIFETIME;
        int clock;
        int onSet;
        final int[] x = new int[MAX_AGENTS];
        final int[] y = new int[MAX_AGENTS];
        final int[] range = new int[MAX_AGENTS];
        final int[] moves = new int[MAX_AGENTS];
        final int[] wasted = new int[MAX_AGENTS];
        final int[] taskX = new int[MAX_TASKS];
        final int[] taskY = new int[MAX_TASKS];
        final int[] work = new int[MAX_TASKS];
        final int[] progress = new int[MAX_TASKS];
        final Notes notes = new Notes();

        void copyFrom(World from) {
            agents = from.agents;
            tasks = from.tasks;
            lifetime = from.lifetime;
            clock = from.clock;
            onSet = from.onSet;
            System.arraycopy(from.x, 0, x, 0, MAX_AGENTS);
            System.arraycopy(from.y, 0, y, 0, MAX_AGENTS);
            System.arraycopy(from.range, 0, range, 0, MAX_AGENTS);
            System.arraycopy(from.moves, 0, moves, 0, MAX_AGENTS);
            System.arraycopy(from.wasted, 0, wasted, 0, MAX_AGENTS);
            System.arraycopy(from.taskX, 0, taskX, 0, MAX_TASKS);
            System.arraycopy(from.taskY, 0, taskY, 0, MAX_TASKS);
            System.arraycopy(from.work, 0, work, 0, MAX_TASKS);
            System.arraycopy(from.progress, 0, progress, 0, MAX_TASKS);
            notes.copyFrom(from.notes);
        }

        void makeBare(int newLifetime) {
            agents = 0;
            tasks = 0;
            lifetime = newLifetime;
            clock = 0;
            onSet = 0;
            notes.makeAllEmpty();
        }

        void addAgent(int column, int row, int newRange) {
            int a = agents;
            if (a >= MAX_AGENTS) {
                return;
            }
            x[a] = column;
            y[a] = row;
            range[a] = newRange;
            moves[a] = 0;
            wasted[a] = 0;
            onSet |= 1 << a;
            agents = a + 1;
        }

        void addTask(int column, int row, int newWork) {
            int t = tasks;
            if (t >= MAX_TASKS) {
                return;
            }
            taskX[t] = column;
            taskY[t] = row;
            work[t] = newWork;
            progress[t] = 0;
            tasks = t + 1;
        }

        boolean hasAgent(int a) {
            return a >= 0 && a < agents;
        }

        boolean hasTask(int t) {
            return t >= 0 && t < tasks;
        }

        boolean isOn(int a) {
            return (onSet >> a & 1) == 1;
        }

        boolean isFinished(int t) {
            return progress[t] == work[t];
        }

        int wayToTask(int a, int t) {
            return distanceOf(x[a], y[a], taskX[t], taskY[t]);
        }

        boolean ownsLiveClaim(int a, int t) {
            int i = noteIndex(a, t);
            return notes.isClaimOf(i, a) && notes.isLiveClaim(i, clock);
        }

        /** The smallest task that a has a claim for, NONE if it has no claim. */
        int ownTask(int a) {
            for (int t = 0; t < tasks; t++) {
                if (ownsLiveClaim(a, t)) {
                    return t;
                }
            }
            return NONE;
        }

        boolean areInTouch(int a, int b) {
            return a != b && isOn(a) && isOn(b)
                    && distanceOf(x[a], y[a], x[b], y[b]) <= Math.min(range[a], range[b]);
        }

        int heardBy(int a) {
            int set = 0;
            for (int b = 0; b < agents; b++) {
                if (areInTouch(a, b)) {
                    set |= 1 << b;
                }
            }
            return set;
        }

        /** The agents of a set, and all that hear one of them. */
        int passedOn(int set) {
            int reached = set;
            for (int a = 0; a < agents; a++) {
                if (isIn(set, a)) {
                    reached |= heardBy(a);
                }
            }
            return reached;
        }

        int groupCount() {
            int left = onSet;
            int count = 0;
            for (int a = 0; a < agents; a++) {
                if (isIn(left, a)) {
                    left &= ~groupOf(a);
                    count++;
                }
            }
            return count;
        }

        int groupOf(int a) {
            int group = 1 << a;
            // A message reaches everyone that it can reach in less than MAX_AGENTS hops.
            for (int n = 1; n < MAX_AGENTS; n++) {
                group = passedOn(group);
            }
            return group;
        }

        void placeAgent(int a, int column, int row) {
            x[a] = column;
            y[a] = row;
        }

        void switchAgent(int a) {
            onSet ^= 1 << a;
        }

        void setAllRanges(int r) {
            for (int a = 0; a < agents; a++) {
                range[a] = r;
            }
        }

        boolean canPassClaim(int a, int b) {
            return areInTouch(a, b) && ownTask(a) != NONE && ownTask(b) == NONE;
        }

        void passClaim(int a, int b) {
            int t = ownTask(a);
            if (t == NONE) {
                return;
            }
            int way = wayToTask(b, t);
            notes.makeClaim(noteIndex(a, t), b, way, clock + lifetime);
            notes.makeClaim(noteIndex(b, t), b, way, clock + lifetime);
        }

        int dropClaims(int a) {
            int count = 0;
            for (int t = 0; t < tasks; t++) {
                int i = noteIndex(a, t);
                if (notes.isClaimOf(i, a)) {
                    notes.kind[i] = EMPTY;
                    count++;
                }
            }
            return count;
        }

        int finishedTasks() {
            int count = 0;
            for (int t = 0; t < tasks; t++) {
                if (isFinished(t)) {
                    count++;
                }
            }
            return count;
        }

        int allProgress() {
            return sumOf(progress, tasks);
        }

        int allMoves() {
            return sumOf(moves, agents);
        }

        int allWasted() {
            return sumOf(wasted, agents);
        }

        private static int sumOf(int[] row, int count) {
            int sum = 0;
            for (int i = 0; i < count; i++) {
                sum += row[i];
            }
            return sum;
        }

        /** The agents, on or off, whose note says that t is finished. */
        int knowers(int t) {
            int set = 0;
            for (int a = 0; a < agents; a++) {
                if (notes.kind[noteIndex(a, t)] == SAYS_FINISHED) {
                    set |= 1 << a;
                }
            }
            return set;
        }

        boolean isKnownToAll(int t) {
            return (onSet & ~knowers(t)) == 0;
        }

        /** The agents that are on and have a claim for t. */
        int claimants(int t) {
            int set = 0;
            for (int a = 0; a < agents; a++) {
                if (isOn(a) && ownsLiveClaim(a, t)) {
                    set |= 1 << a;
                }
            }
            return set;
        }

        int doublyClaimed() {
            int count = 0;
            for (int t = 0; t < tasks; t++) {
                if (Integer.bitCount(claimants(t)) >= 2) {
                    count++;
                }
            }
            return count;
        }

        int unknownFinishes() {
            int count = 0;
            for (int t = 0; t < tasks; t++) {
                if (isFinished(t)) {
                    count += Integer.bitCount(onSet & ~knowers(t));
                }
            }
            return count;
        }

        int claimsOfLostAgents() {
            int count = 0;
            for (int a = 0; a < agents; a++) {
                for (int t = 0; t < tasks; t++) {
                    int i = noteIndex(a, t);
                    if (isOn(a) && notes.isLiveClaim(i, clock) && !isOn(notes.owner[i])) {
                        count++;
                    }
                }
            }
            return count;
        }
    }

    /** Makes the steps. */
    private static final class Stepper {
        private final Notes before = new Notes();

        void makeSteps(World w, int n) {
            for (int i = 0; i < n; i++) {
                before.copyFrom(w.notes);
                for (int a = 0; a < w.agents; a++) {
                    if (w.isOn(a)) {
                        compareNotes(w, a);
                    }
                }
                for (int a = 0; a < w.agents; a++) {
                    if (w.isOn(a)) {
                        chooseClaim(w, a);
                    }
                }
                for (int a = 0; a < w.agents; a++) {
                    if (w.isOn(a)) {
                        workOrMove(w, a);
                    }
                }
                w.clock++;
            }
        }

        private void compareNotes(World w, int a) {
            int heard = w.heardBy(a);
            for (int t = 0; t < w.tasks; t++) {
                int own = noteIndex(a, t);
                int best = bestNote(w, own, heard, t);
                if (before.isExpiredClaim(best, w.clock)) {
                    w.notes.kind[own] = EMPTY;
                } else {
                    w.notes.copyOne(own, before, best);
                }
            }
        }

        private int bestNote(World w, int own, int heard, int t) {
            int best = own;
            for (int b = 0; b < w.agents; b++) {
                int other = noteIndex(b, t);
                if (isIn(heard, b) && before.isBetter(other, best, w.clock)) {
                    best = other;
                }
            }
            return best;
        }

        private static void chooseClaim(World w, int a) {
            int t = nearest(w, a, true);
            if (t == NONE) {
                t = nearest(w, a, false);
            }
            if (t == NONE) {
                return;
            }
            // The one claim that is kept is written anew below.
            w.dropClaims(a);
            w.notes.makeClaim(noteIndex(a, t), a, w.wayToTask(a, t), w.clock + w.lifetime);
        }

        /** The nearest task that a has a claim for or, if not owned, the nearest with an empty note. */
        private static int nearest(World w, int a, boolean owned) {
            int nearest = NONE;
            int least = 0;
            for (int t = 0; t < w.tasks; t++) {
                boolean fits = owned
                        ? w.ownsLiveClaim(a, t)
                        : w.notes.kind[noteIndex(a, t)] == EMPTY;
                int way = w.wayToTask(a, t);
                if (fits && (nearest == NONE || way < least)) {
                    nearest = t;
                    least = way;
                }
            }
            return nearest;
        }

        private static void workOrMove(World w, int a) {
            int t = w.ownTask(a);
            if (t == NONE) {
                return;
            }
            if (w.wayToTask(a, t) > 0) {
                moveTowards(w, a, w.taskX[t], w.taskY[t]);
                return;
            }
            if (w.isFinished(t)) {
                w.wasted[a]++;
            } else {
                w.progress[t]++;
            }
            if (w.isFinished(t)) {
                w.notes.kind[noteIndex(a, t)] = SAYS_FINISHED;
            }
        }

        private static void moveTowards(World w, int a, int column, int row) {
            if (w.x[a] != column) {
                w.x[a] += w.x[a] < column ? 1 : -1;
            } else {
                w.y[a] += w.y[a] < row ? 1 : -1;
            }
            w.moves[a]++;
        }
    }

    /** The text buffer, and how it is read. */
    private static final class Text {
        private static final int HEAD_LENGTH = 3;
        private static final int AGENT_LENGTH = 7;
        private static final int TASK_LENGTH = 6;

        private final int[] codes = new int[MAX_TEXT];
        int length;

        boolean hasRoom() {
            return length < MAX_TEXT;
        }

        void add(int c) {
            if (hasRoom()) {
                codes[length] = c;
                length++;
            }
        }

        /** Makes w what the text describes; returns the error position, NONE if there is none. */
        int readInto(World w) {
            if (codeAt(0) != 'C') {
                return 0;
            }
            int bad = badInNumber(1, 1, MAX_LIFETIME);
            if (bad != NONE) {
                return bad;
            }
            w.makeBare(numberAt(1));
            int at = HEAD_LENGTH;
            while (at < length) {
                boolean isAgent = codes[at] == 'a';
                bad = isAgent ? readAgent(at, w) : readTask(at, w);
                if (bad != NONE) {
                    return bad;
                }
                at += isAgent ? AGENT_LENGTH : TASK_LENGTH;
            }
            return NONE;
        }

        private int readAgent(int at, World w) {
            if (w.agents >= MAX_AGENTS) {
                return at;
            }
            int bad = badInPlace(at + 1);
            if (bad == NONE) {
                bad = badInNumber(at + 5, 0, MAX_RANGE);
            }
            if (bad == NONE) {
                w.addAgent(numberAt(at + 1), numberAt(at + 3), numberAt(at + 5));
            }
            return bad;
        }

        private int readTask(int at, World w) {
            if (codeAt(at) != 't' || w.tasks >= MAX_TASKS) {
                return at;
            }
            int bad = badInPlace(at + 1);
            if (bad != NONE) {
                return bad;
            }
            int work = digitAt(at + 5);
            if (work < 1) {
                return at + 5;
            }
            w.addTask(numberAt(at + 1), numberAt(at + 3), work);
            return NONE;
        }

        private int badInPlace(int at) {
            int bad = badInNumber(at, 0, SIDE - 1);
            return bad != NONE ? bad : badInNumber(at + 2, 0, SIDE - 1);
        }

        /** The first position that can't belong to two digits from low to high, NONE if all can. */
        private int badInNumber(int at, int low, int high) {
            int tens = digitAt(at);
            if (tens < low / 10 || tens > high / 10) {
                return at;
            }
            int ones = digitAt(at + 1);
            int number = 10 * tens + ones;
            return ones < 0 || number < low || number > high ? at + 1 : NONE;
        }

        private int numberAt(int at) {
            return 10 * digitAt(at) + digitAt(at + 1);
        }

        /** The digit at a position; -1 if there is none, as behind the end. */
        private int digitAt(int at) {
            int code = codeAt(at);
            return code >= '0' && code <= '9' ? code - '0' : -1;
        }

        private int codeAt(int at) {
            return at >= 0 && at < length ? codes[at] : -1;
        }
    }

    /** The remembered states, in a ring in which the newest takes the place of the oldest. */
    private static final class History {
        private final World[] kept = new World[MAX_REMEMBERED];
        private int next;
        int count;

        History() {
            for (int i = 0; i < MAX_REMEMBERED; i++) {
                kept[i] = new World();
            }
        }

        void remember(World w) {
            kept[next].copyFrom(w);
            next = (next + 1) % MAX_REMEMBERED;
            count = Math.min(count + 1, MAX_REMEMBERED);
        }

        void takeBack(World into) {
            if (count <= 0) {
                return;
            }
            next = (next + MAX_REMEMBERED - 1) % MAX_REMEMBERED;
            count--;
            into.copyFrom(kept[next]);
        }

        void forget() {
            count = 0;
        }
    }

    /** The commands of scripts. */
    private static final class Commands {
        private final Stepper stepper;

        Commands(Stepper stepper) {
            this.stepper = stepper;
        }

        /** Carries out the command of five digits d1 to d5; tells if it succeeds. */
        boolean succeeds(World w, int group) {
            int first = group / 10000;
            if (first >= 2 && first <= 5) {
                return changes(w, first, group);
            }
            if (first == 7) {
                int a = group / 1000 % 10;
                return w.hasAgent(a) && w.ownTask(a) == group % 1000;
            }
            // The other commands have no agent: d2 and d3 are 0.
            int number = group % 10000;
            if (number > 99) {
                return false;
            }
            switch (first) {
                case 1:
                    stepper.makeSteps(w, number);
                    return number > 0;
                case 6:
                    return w.finishedTasks() == number;
                case 8:
                    return w.doublyClaimed() == number;
                case 9:
                    return w.allWasted() <= number;
                default:
                    return false;
            }
        }

        private static boolean changes(World w, int first, int group) {
            int a = group / 1000 % 10;
            int rest = group % 1000;
            if (!w.hasAgent(a)) {
                return false;
            }
            switch (first) {
                case 2:
                    if (rest > MAX_RANGE) {
                        return false;
                    }
                    w.range[a] = rest;
                    return true;
                case 3:
                    if (rest != 0) {
                        return false;
                    }
                    w.switchAgent(a);
                    return true;
                case 4:
                    int b = rest / 100;
                    if (rest % 100 != 0 || !w.hasAgent(b) || !w.canPassClaim(a, b)) {
                        return false;
                    }
                    w.passClaim(a, b);
                    return true;
                default:
                    if (rest != 0) {
                        return false;
                    }
                    w.dropClaims(a);
                    return true;
            }
        }
    }

    /** The best way to share the tasks that are not finished among the agents that are on. */
    private static final class Sharing {
        private static final int TASK_SETS = 1 << MAX_TASKS;
        // More than all distances together, so that the number of pairs counts first.
        private static final int PAIR_WORTH = 1000;

        final int[] taskOf = new int[MAX_AGENTS];
        int distanceSum;
        // At a * TASK_SETS + set: the most that a and the agents behind it can be worth
        // together if the tasks of the set are not for them.
        private final int[] worth = new int[(MAX_AGENTS + 1) * TASK_SETS];

        void findBest(World w) {
            // Row w.agents stays 0: nobody is left there.
            for (int set = 0; set < TASK_SETS; set++) {
                worth[w.agents * TASK_SETS + set] = 0;
            }
            for (int a = w.agents - 1; a >= 0; a--) {
                for (int set = 0; set < 1 << w.tasks; set++) {
                    worth[a * TASK_SETS + set] = mostFor(w, a, set);
                }
            }
            followBest(w);
        }

        private int mostFor(World w, int a, int set) {
            int most = worth[(a + 1) * TASK_SETS + set];
            for (int t = 0; t < w.tasks; t++) {
                if (mayTake(w, a, t, set)) {
                    most = Math.max(most, worthOf(w, a, t, set));
                }
            }
            return most;
        }

        private static boolean mayTake(World w, int a, int t, int set) {
            return w.isOn(a) && !isIn(set, t) && !w.isFinished(t);
        }

        private int worthOf(World w, int a, int t, int set) {
            return PAIR_WORTH - w.wayToTask(a, t) + worth[(a + 1) * TASK_SETS + (set | 1 << t)];
        }

        /** Gives each agent in turn the smallest task with which the most can still be had. */
        private void followBest(World w) {
            int set = 0;
            distanceSum = 0;
            for (int a = 0; a < w.agents; a++) {
                int t = smallestBest(w, a, set);
                taskOf[a] = t;
                if (t != NONE) {
                    set |= 1 << t;
                    distanceSum += w.wayToTask(a, t);
                }
            }
        }

        private int smallestBest(World w, int a, int set) {
            for (int t = 0; t < w.tasks; t++) {
                if (mayTake(w, a, t, set) && worthOf(w, a, t, set) == worth[a * TASK_SETS + set]) {
                    return t;
                }
            }
            return NONE;
        }
    }
}
