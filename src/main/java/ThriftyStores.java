import java.util.Arrays;

/**
 * A thrifty machine: programs for a memory of objects are written down, run, looked through, and
 * freed from loads and stores that nobody needs. The promises are numbered in the project's document.
 */
public final class ThriftyStores {
    public static final int NONE = -1;

    private static final int REGISTERS = 16;
    private static final int ALL_REGISTERS = (1 << REGISTERS) - 1;
    private static final int MOST_INSTRUCTIONS = 200;
    private static final int POINTS = MOST_INSTRUCTIONS + 1;
    private static final int MOST_CELLS = 16;
    private static final int MOST_OBJECTS = 300;
    private static final int MOST_PRINTED = 200;
    private static final int MOST_STEPS = 5000;

    // Far above what any program can need: a sweep that is not the last changes one fact at least,
    // a round that is not the last one instruction at least.
    private static final int MOST_SWEEPS = 1000000;
    private static final int MOST_ROUNDS = 1000;

    private static final int NUMBER = 0;
    private static final int MOVE = 1;
    private static final int SUM = 2;
    private static final int DIFFERENCE = 3;
    private static final int PRODUCT = 4;
    private static final int LESS = 5;
    private static final int SAME = 6;
    private static final int SHIFT = 7;
    private static final int MAKE = 8;
    private static final int LOAD = 9;
    private static final int STORE = 10;
    private static final int PRINT = 11;
    private static final int JUMP = 12;
    private static final int IF = 13;
    private static final int HALT = 14;
    private static final int NOTHING = 15;

    private static final int HALTED = 0;
    private static final int TRAPPED = 1;
    private static final int OUT_OF_STEPS = 2;
    private static final int OUT_OF_ROOM = 3;

    private static final int UNCHANGED = 0;
    private static final int FORWARDED = 1;
    private static final int REDUNDANT = 2;
    private static final int DEAD = 3;

    private final Program writtenProgram = new Program();
    private final Program thriftyProgram = new Program();
    private final int[] fates = new int[MOST_INSTRUCTIONS];
    private final Addresses addresses = new Addresses();
    private final Knowledge knowledge = new Knowledge();
    private final Freedom freedom = new Freedom();
    private final Machine machine = new Machine();
    private boolean madeThrifty = false;
    private int roundsMade = 0;

    /** Promise 1. */
    public ThriftyStores() {
    }

    /** Promise 2. */
    public int add(int kind, int a, int b, int c) throws IllegalArgumentException, IllegalStateException {
        if (!Program.mayStand(kind, a, b, c)) {
            throw new IllegalArgumentException("no such instruction may stand in a program");
        }
        if (madeThrifty || writtenProgram.length >= MOST_INSTRUCTIONS) {
            throw new IllegalStateException("the program is full, or was made thrifty");
        }
        return writtenProgram.append(kind, a, b, c);
    }

    /** Promise 3. */
    public int clear() {
        int had = writtenProgram.length;
        writtenProgram.length = 0;
        madeThrifty = false;
        return had;
    }

    /** Promise 4. */
    public int thrift() throws IllegalStateException {
        if (madeThrifty) {
            throw new IllegalStateException("the program was made thrifty");
        }
        thriftyProgram.copy(writtenProgram);
        Arrays.fill(fates, UNCHANGED);
        int changes = 0;
        int last = NONE;
        roundsMade = 0;
        while (last != 0 && roundsMade < MOST_ROUNDS) {
            last = makeRound();
            changes += last;
            roundsMade++;
        }
        // The questions that are asked later are all about the program as it was written.
        lookThrough(writtenProgram);
        madeThrifty = true;
        return changes;
    }

    /** Promise 5. */
    public int size() {
        return writtenProgram.length;
    }

    /** Promise 6. */
    public int instruction(int i, int what, boolean written)
            throws IndexOutOfBoundsException, IllegalArgumentException, IllegalStateException {
        needPresent(isInstruction(i));
        needSensible(what >= 0 && what <= 3);
        needThrifty(written);
        Program program = written ? writtenProgram : thriftyProgram;
        return program.part(i, what);
    }

    /** Promise 7. */
    public int fate(int i) throws IndexOutOfBoundsException, IllegalStateException {
        needPresent(isInstruction(i));
        needThrifty(false);
        return fates[i];
    }

    /** Promise 8. */
    public int rounds() throws IllegalStateException {
        needThrifty(false);
        return roundsMade;
    }

    /** Promise 9. */
    public boolean may(int register, int i) throws IndexOutOfBoundsException, IllegalStateException {
        needPresent(isRegister(register) && isInstruction(i));
        needThrifty(false);
        return addresses.mayBe(register, i);
    }

    /** Promise 10. */
    public boolean inside(int site, int i) throws IndexOutOfBoundsException, IllegalStateException {
        needPresent(isInstruction(site) && isInstruction(i));
        needThrifty(false);
        return addresses.mayHold(site, i);
    }

    /** Promise 11. */
    public boolean fact(int i, int what, int r, int s)
            throws IndexOutOfBoundsException, IllegalArgumentException, IllegalStateException {
        needPresent(isPoint(i) && isRegister(r) && isRegister(s));
        needSensible(what >= 0 && what <= 3 && (what < 2 || s == 0) && (what < 3 || r == 0));
        needThrifty(false);
        return knowledge.tells(i, what, r, s);
    }

    /** Promise 12. */
    public boolean free(int i, int r) throws IndexOutOfBoundsException, IllegalStateException {
        needPresent(isPoint(i) && isRegister(r));
        needThrifty(false);
        return freedom.isFreeBehind(i, r);
    }

    /** Promise 13. */
    public int run(boolean written, int steps) throws IllegalArgumentException, IllegalStateException {
        needSensible(steps >= 1 && steps <= MOST_STEPS);
        needThrifty(written);
        return machine.perform(written ? writtenProgram : thriftyProgram, steps);
    }

    /** Promise 14. */
    public int steps() {
        return machine.stepsMade;
    }

    /** Promise 15. */
    public int printed() {
        return machine.numbersPrinted;
    }

    /** Promise 16. */
    public int print(int i) throws IndexOutOfBoundsException {
        needPresent(i >= 0 && i < machine.numbersPrinted);
        return machine.numbers[i];
    }

    /** Promise 17. */
    public int kept() {
        return machine.objectsKept();
    }

    /** Promise 18. */
    public int cell(int i, int k, int what) throws IndexOutOfBoundsException, IllegalArgumentException {
        needPresent(machine.hasKeptCell(i, k));
        needSensible(what >= 0 && what <= 2);
        return machine.partOfCell(i, k, what);
    }

    private boolean isInstruction(int i) {
        return i >= 0 && i < writtenProgram.length;
    }

    private boolean isPoint(int i) {
        return i >= 0 && i <= writtenProgram.length;
    }

    private static boolean isRegister(int r) {
        return r >= 0 && r < REGISTERS;
    }

    private static void needPresent(boolean present) {
        if (!present) {
            throw new IndexOutOfBoundsException("there is no such thing");
        }
    }

    private static void needSensible(boolean sensible) {
        if (!sensible) {
            throw new IllegalArgumentException("this can't be asked");
        }
    }

    /** The program as it was written can be spoken of at any time, all else once it was made thrifty. */
    private void needThrifty(boolean ofWritten) {
        if (!ofWritten && !madeThrifty) {
            throw new IllegalStateException("the program was not made thrifty");
        }
    }

    private void lookThrough(Program program) {
        addresses.find(program);
        knowledge.find(program, addresses);
        freedom.find(program, addresses, knowledge);
    }

    private int makeRound() {
        lookThrough(thriftyProgram);
        int changes = dropWhatIsKnown();
        if (changes > 0) {
            lookThrough(thriftyProgram);
        }
        return changes + dropWhatIsDead();
    }

    private int dropWhatIsKnown() {
        int changes = 0;
        for (int i = 0; i < thriftyProgram.length; i++) {
            if (!knowledge.reached[i]) {
                continue;
            }
            int kind = thriftyProgram.kinds[i];
            int a = thriftyProgram.firsts[i];
            int b = thriftyProgram.seconds[i];
            int[] holds = knowledge.before[i].holds;
            if (kind == LOAD && holds[b] != 0) {
                thriftyProgram.replace(i, MOVE, a, Integer.numberOfTrailingZeros(holds[b]));
                fates[i] = FORWARDED;
                changes++;
            } else if (kind == STORE && (holds[a] >> b & 1) != 0) {
                thriftyProgram.replace(i, NOTHING, 0, 0);
                fates[i] = REDUNDANT;
                changes++;
            }
        }
        return changes;
    }

    private int dropWhatIsDead() {
        int changes = 0;
        for (int i = 0; i < thriftyProgram.length; i++) {
            if (thriftyProgram.kinds[i] == STORE && knowledge.reached[i]) {
                int a = thriftyProgram.firsts[i];
                boolean sure = (knowledge.before[i].sure >> a & 1) != 0;
                if (sure && freedom.isFreeBehind(i, a)) {
                    thriftyProgram.replace(i, NOTHING, 0, 0);
                    fates[i] = DEAD;
                    changes++;
                }
            }
        }
        return changes;
    }

    /** The instructions of one program, in rows side by side. */
    private static final class Program {
        final int[] kinds = new int[MOST_INSTRUCTIONS];
        final int[] firsts = new int[MOST_INSTRUCTIONS];
        final int[] seconds = new int[MOST_INSTRUCTIONS];
        final int[] thirds = new int[MOST_INSTRUCTIONS];
        int length = 0;

        static boolean mayStand(int kind, int a, int b, int c) {
            switch (kind) {
                case NUMBER:
                    return isRegister(a) && c == 0;
                case MOVE:
                case LOAD:
                case STORE:
                    return isRegister(a) && isRegister(b) && c == 0;
                case SUM:
                case DIFFERENCE:
                case PRODUCT:
                case LESS:
                case SAME:
                case SHIFT:
                    return isRegister(a) && isRegister(b) && isRegister(c);
                case MAKE:
                    return isRegister(a) && b >= 1 && b <= MOST_CELLS && (c == 0 || c == 1);
                case PRINT:
                    return isRegister(a) && b == 0 && c == 0;
                case JUMP:
                    return isTarget(a) && b == 0 && c == 0;
                case IF:
                    return isRegister(a) && isTarget(b) && c == 0;
                case HALT:
                case NOTHING:
                    return a == 0 && b == 0 && c == 0;
                default:
                    return false;
            }
        }

        static boolean isTarget(int i) {
            return i >= 0 && i <= MOST_INSTRUCTIONS;
        }

        int append(int kind, int a, int b, int c) {
            int i = length;
            kinds[i] = kind;
            firsts[i] = a;
            seconds[i] = b;
            thirds[i] = c;
            length++;
            return i;
        }

        void replace(int i, int kind, int a, int b) {
            kinds[i] = kind;
            firsts[i] = a;
            seconds[i] = b;
            thirds[i] = 0;
        }

        void copy(Program other) {
            System.arraycopy(other.kinds, 0, kinds, 0, other.length);
            System.arraycopy(other.firsts, 0, firsts, 0, other.length);
            System.arraycopy(other.seconds, 0, seconds, 0, other.length);
            System.arraycopy(other.thirds, 0, thirds, 0, other.length);
            length = other.length;
        }

        int part(int i, int what) {
            switch (what) {
                case 0:
                    return kinds[i];
                case 1:
                    return firsts[i];
                case 2:
                    return seconds[i];
                default:
                    return thirds[i];
            }
        }

        boolean setsFirst(int i) {
            return kinds[i] <= LOAD;
        }

        /** The point that comes behind instruction i without a jump, or NONE. */
        int follower(int i) {
            return kinds[i] == JUMP || kinds[i] == HALT ? NONE : i + 1;
        }

        /** The point that instruction i may jump to, or NONE; all places behind the last one are one point. */
        int target(int i) {
            if (kinds[i] == JUMP) {
                return Math.min(firsts[i], length);
            }
            return kinds[i] == IF ? Math.min(seconds[i], length) : NONE;
        }
    }

    /** What addresses may be: sets of sites, a bit for each instruction, in WORDS longs each. */
    private static final class Addresses {
        private static final int WORDS = 4;

        private final long[] ofRegisters = new long[REGISTERS * WORDS];
        private final long[] ofCells = new long[MOST_INSTRUCTIONS * WORDS];
        private final int[] sites = new int[MOST_INSTRUCTIONS];
        private int siteCount = 0;
        /** For each register those that MEET it, a bit each. */
        final int[] meeting = new int[REGISTERS];
        /** The registers that no KEPT site is in MAY of. */
        int unkept = 0;

        void find(Program program) {
            Arrays.fill(ofRegisters, 0L);
            Arrays.fill(ofCells, 0L);
            listSites(program);
            boolean grown = true;
            for (int sweep = 0; grown && sweep < MOST_SWEEPS; sweep++) {
                grown = false;
                for (int i = 0; i < program.length; i++) {
                    if (follow(program, i)) {
                        grown = true;
                    }
                }
            }
            findMeeting();
            findUnkept(program);
        }

        boolean mayBe(int register, int i) {
            return has(ofRegisters, register, i);
        }

        boolean mayHold(int site, int i) {
            return has(ofCells, site, i);
        }

        private void listSites(Program program) {
            siteCount = 0;
            for (int i = 0; i < program.length; i++) {
                if (program.kinds[i] == MAKE) {
                    sites[siteCount] = i;
                    siteCount++;
                }
            }
        }

        private boolean follow(Program program, int i) {
            int a = program.firsts[i];
            int b = program.seconds[i];
            switch (program.kinds[i]) {
                case MAKE:
                    return enter(a, i);
                case MOVE:
                case SHIFT:
                    return join(ofRegisters, a, ofRegisters, b);
                case LOAD:
                    return followLoad(a, b);
                case STORE:
                    return followStore(a, b);
                default:
                    return false;
            }
        }

        private boolean followLoad(int a, int b) {
            boolean grown = false;
            for (int k = 0; k < siteCount; k++) {
                if (has(ofRegisters, b, sites[k]) && join(ofRegisters, a, ofCells, sites[k])) {
                    grown = true;
                }
            }
            return grown;
        }

        private boolean followStore(int a, int b) {
            boolean grown = false;
            for (int k = 0; k < siteCount; k++) {
                if (has(ofRegisters, a, sites[k]) && join(ofCells, sites[k], ofRegisters, b)) {
                    grown = true;
                }
            }
            return grown;
        }

        private boolean enter(int register, int site) {
            if (has(ofRegisters, register, site)) {
                return false;
            }
            ofRegisters[register * WORDS + (site >> 6)] |= 1L << (site & 63);
            return true;
        }

        private static boolean has(long[] sets, int set, int site) {
            return (sets[set * WORDS + (site >> 6)] >>> (site & 63) & 1L) != 0L;
        }

        private static boolean join(long[] sets, int set, long[] others, int other) {
            boolean grown = false;
            for (int w = 0; w < WORDS; w++) {
                long old = sets[set * WORDS + w];
                long joined = old | others[other * WORDS + w];
                if (joined != old) {
                    sets[set * WORDS + w] = joined;
                    grown = true;
                }
            }
            return grown;
        }

        private void findMeeting() {
            for (int r = 0; r < REGISTERS; r++) {
                meeting[r] = 0;
                for (int s = 0; s < REGISTERS; s++) {
                    if (haveCommonSite(r, s)) {
                        meeting[r] |= 1 << s;
                    }
                }
            }
        }

        private boolean haveCommonSite(int r, int s) {
            boolean common = false;
            for (int w = 0; w < WORDS; w++) {
                if ((ofRegisters[r * WORDS + w] & ofRegisters[s * WORDS + w]) != 0L) {
                    common = true;
                }
            }
            return common;
        }

        private void findUnkept(Program program) {
            unkept = ALL_REGISTERS;
            for (int k = 0; k < siteCount; k++) {
                if (program.thirds[sites[k]] == 1) {
                    takeHolders(sites[k]);
                }
            }
        }

        private void takeHolders(int site) {
            for (int r = 0; r < REGISTERS; r++) {
                if (has(ofRegisters, r, site)) {
                    unkept &= ~(1 << r);
                }
            }
        }
    }

    /** The facts of one point; sets of registers are a bit for each. */
    private static final class Facts {
        final int[] equal = new int[REGISTERS];
        final int[] holds = new int[REGISTERS];
        int sure = 0;

        void begin() {
            for (int r = 0; r < REGISTERS; r++) {
                equal[r] = ALL_REGISTERS & ~(1 << r);
                holds[r] = 0;
            }
            sure = 0;
        }

        void copy(Facts other) {
            System.arraycopy(other.equal, 0, equal, 0, REGISTERS);
            System.arraycopy(other.holds, 0, holds, 0, REGISTERS);
            sure = other.sure;
        }

        /** Keeps what the other has too: whether anything was lost by it. */
        boolean keepCommon(Facts other) {
            int lost = sure & ~other.sure;
            sure &= other.sure;
            for (int r = 0; r < REGISTERS; r++) {
                lost |= equal[r] & ~other.equal[r] | holds[r] & ~other.holds[r];
                equal[r] &= other.equal[r];
                holds[r] &= other.holds[r];
            }
            return lost != 0;
        }

        /** Turns the facts before instruction i into those that come from it. */
        void pass(Program program, int i, int[] meeting) {
            int a = program.firsts[i];
            int b = program.seconds[i];
            switch (program.kinds[i]) {
                case MOVE:
                    passMove(a, b);
                    break;
                case SHIFT:
                    forget(a);
                    sure |= 1 << a | 1 << b;
                    break;
                case MAKE:
                    forget(a);
                    sure |= 1 << a;
                    break;
                case LOAD:
                    passLoad(a, b);
                    break;
                case STORE:
                    passStore(a, b, meeting[a]);
                    break;
                default:
                    if (program.setsFirst(i)) {
                        forget(a);
                    }
                    break;
            }
        }

        private void forget(int a) {
            int others = ~(1 << a);
            for (int r = 0; r < REGISTERS; r++) {
                equal[r] &= others;
                holds[r] &= others;
            }
            equal[a] = 0;
            holds[a] = 0;
            sure &= others;
        }

        private void passMove(int a, int b) {
            if (a == b) {
                return;
            }
            forget(a);
            for (int r = 0; r < REGISTERS; r++) {
                equal[r] |= (equal[r] >> b & 1) << a;
                holds[r] |= (holds[r] >> b & 1) << a;
            }
            // Taken only now, so that HOLDS(b, a), which HOLDS(b, b) has just brought, brings HOLDS(a, a).
            equal[a] = equal[b] | 1 << b;
            holds[a] = holds[b];
            equal[b] |= 1 << a;
            sure |= (sure >> b & 1) << a;
        }

        private void passLoad(int a, int b) {
            // Looked up first: a may be b, or be named in what is known of b.
            int loadedFrom = (equal[b] | 1 << b) & ~(1 << a);
            int loaded = holds[b] & ~(1 << a);
            forget(a);
            sure |= loadedFrom;
            equal[a] = loaded;
            for (int r = 0; r < REGISTERS; r++) {
                holds[r] |= (loadedFrom >> r & 1) << a;
                equal[r] |= (loaded >> r & 1) << a;
            }
        }

        private void passStore(int a, int b, int meeting) {
            int storedTo = equal[a] | 1 << a;
            int stored = equal[b] | 1 << b;
            for (int r = 0; r < REGISTERS; r++) {
                if ((meeting >> r & 1) != 0) {
                    holds[r] &= stored;
                }
                if ((storedTo >> r & 1) != 0) {
                    holds[r] |= stored;
                }
            }
            sure |= storedTo;
        }
    }

    /** What is known before each point that can be reached, and which can. */
    private static final class Knowledge {
        final Facts[] before = new Facts[POINTS];
        final boolean[] reached = new boolean[POINTS];
        /** The points whose facts have changed since they were last passed on. */
        private final boolean[] waiting = new boolean[POINTS];
        private final Facts passed = new Facts();

        Knowledge() {
            for (int i = 0; i < POINTS; i++) {
                before[i] = new Facts();
            }
        }

        void find(Program program, Addresses addresses) {
            begin();
            boolean changed = true;
            for (int sweep = 0; changed && sweep < MOST_SWEEPS; sweep++) {
                changed = false;
                for (int i = 0; i < program.length; i++) {
                    if (waiting[i]) {
                        waiting[i] = false;
                        changed = true;
                        passed.copy(before[i]);
                        passed.pass(program, i, addresses.meeting);
                        flowTo(program.follower(i));
                        flowTo(program.target(i));
                    }
                }
            }
        }

        private void begin() {
            for (int i = 0; i < POINTS; i++) {
                reached[i] = false;
                waiting[i] = false;
            }
            reached[0] = true;
            waiting[0] = true;
            before[0].begin();
        }

        /** A point has the most facts when the first way to it brings all of its own, and each other only takes. */
        private void flowTo(int point) {
            if (point == NONE) {
                return;
            }
            if (!reached[point]) {
                reached[point] = true;
                waiting[point] = true;
                before[point].copy(passed);
            } else if (before[point].keepCommon(passed)) {
                waiting[point] = true;
            }
        }

        boolean tells(int i, int what, int r, int s) {
            if (!reached[i]) {
                return false;
            }
            switch (what) {
                case 0:
                    return (before[i].equal[r] >> s & 1) != 0;
                case 1:
                    return (before[i].holds[r] >> s & 1) != 0;
                case 2:
                    return (before[i].sure >> r & 1) != 0;
                default:
                    return true;
            }
        }
    }

    /** Which registers are free behind each point, a bit each; none where a point can't be reached. */
    private static final class Freedom {
        private final int[] behind = new int[POINTS];

        void find(Program program, Addresses addresses, Knowledge knowledge) {
            int atEnd = addresses.unkept;
            for (int i = 0; i < program.length; i++) {
                behind[i] = knowledge.reached[i] ? ALL_REGISTERS : 0;
            }
            behind[program.length] = knowledge.reached[program.length] ? atEnd : 0;
            boolean changed = true;
            for (int sweep = 0; changed && sweep < MOST_SWEEPS; sweep++) {
                changed = false;
                for (int i = program.length - 1; i >= 0; i--) {
                    if (knowledge.reached[i]) {
                        int old = behind[i];
                        behind[i] = program.kinds[i] == HALT ? atEnd : freeBeforeNext(program, i, addresses, knowledge);
                        changed = changed || behind[i] != old;
                    }
                }
            }
        }

        boolean isFreeBehind(int i, int r) {
            return (behind[i] >> r & 1) != 0;
        }

        private int freeBeforeNext(Program program, int i, Addresses addresses, Knowledge knowledge) {
            int all = ALL_REGISTERS;
            int follower = program.follower(i);
            if (follower != NONE) {
                all &= freeBefore(program, follower, addresses, knowledge);
            }
            int target = program.target(i);
            if (target != NONE) {
                all &= freeBefore(program, target, addresses, knowledge);
            }
            return all;
        }

        private int freeBefore(Program program, int i, Addresses addresses, Knowledge knowledge) {
            int still = behind[i];
            if (i == program.length) {
                return still;
            }
            int a = program.firsts[i];
            int b = program.seconds[i];
            int unset = program.setsFirst(i) ? still & ~(1 << a) : still;
            switch (program.kinds[i]) {
                case MOVE:
                    return a == b ? unset : unset | (still >> a & 1) << b;
                case LOAD:
                    return unset & ~addresses.meeting[b];
                case STORE:
                    return unset | knowledge.before[i].equal[a] | 1 << a;
                default:
                    return unset;
            }
        }
    }

    /**
     * Runs programs, and keeps what the last run left. A value is a long: its low half is the number or the
     * place, its high half is 0 for a number, or else one more than how many objects were made before.
     */
    private static final class Machine {
        private static final int GOING = -1;

        private final long[] registers = new long[REGISTERS];
        private final long[] cells = new long[MOST_OBJECTS * MOST_CELLS];
        private final int[] sizes = new int[MOST_OBJECTS];
        private final int[] keptObjects = new int[MOST_OBJECTS];
        private int objectsMade = 0;
        private int keptMade = 0;
        private int ending = GOING;
        private int at = 0;
        final int[] numbers = new int[MOST_PRINTED];
        int numbersPrinted = 0;
        int stepsMade = 0;

        int perform(Program program, int most) {
            Arrays.fill(registers, 0L);
            objectsMade = 0;
            keptMade = 0;
            numbersPrinted = 0;
            at = 0;
            ending = GOING;
            for (stepsMade = 0; ending == GOING && at < program.length && stepsMade < most; stepsMade++) {
                ending = step(program, at);
            }
            if (ending == GOING) {
                ending = at < program.length ? OUT_OF_STEPS : HALTED;
            }
            return ending;
        }

        int objectsKept() {
            return ending == HALTED ? keptMade : 0;
        }

        boolean hasKeptCell(int i, int k) {
            return i >= 0 && i < objectsKept() && k >= 0 && k < sizes[keptObjects[i]];
        }

        int partOfCell(int i, int k, int what) {
            long value = cells[keptObjects[i] * MOST_CELLS + k];
            boolean address = isAddress(value);
            switch (what) {
                case 0:
                    return address ? 1 : 0;
                case 1:
                    return address ? objectOf(value) : (int) value;
                default:
                    return address ? (int) value : 0;
            }
        }

        private int step(Program program, int i) {
            int kind = program.kinds[i];
            int a = program.firsts[i];
            int b = program.seconds[i];
            int c = program.thirds[i];
            at = i + 1;
            switch (kind) {
                case NUMBER:
                    return become(a, number(b));
                case MOVE:
                    return become(a, registers[b]);
                case SUM:
                case DIFFERENCE:
                case PRODUCT:
                case LESS:
                    return reckon(kind, a, b, c);
                case SAME:
                    return become(a, registers[b] == registers[c] ? 1L : 0L);
                case SHIFT:
                    return shift(a, b, c);
                case MAKE:
                    return make(a, b, c);
                case LOAD:
                    return isAddress(registers[b]) ? become(a, cells[cellOf(registers[b])]) : TRAPPED;
                case STORE:
                    return store(a, b);
                case PRINT:
                    return tell(a);
                case JUMP:
                    return goTo(a);
                case IF:
                    return decide(a, b);
                case HALT:
                    return HALTED;
                default:
                    return GOING;
            }
        }

        private int become(int a, long value) {
            registers[a] = value;
            return GOING;
        }

        private int reckon(int kind, int a, int b, int c) {
            if (isAddress(registers[b]) || isAddress(registers[c])) {
                return TRAPPED;
            }
            int left = (int) registers[b];
            int right = (int) registers[c];
            switch (kind) {
                case SUM:
                    return become(a, number(left + right));
                case DIFFERENCE:
                    return become(a, number(left - right));
                case PRODUCT:
                    return become(a, number(left * right));
                default:
                    return become(a, left < right ? 1L : 0L);
            }
        }

        private int shift(int a, int b, int c) {
            long address = registers[b];
            if (!isAddress(address) || isAddress(registers[c])) {
                return TRAPPED;
            }
            // Added as longs: the sum of a place and a number may be no int.
            long place = (long) (int) address + (int) registers[c];
            if (place < 0 || place >= sizes[objectOf(address)]) {
                return TRAPPED;
            }
            return become(a, address(objectOf(address), (int) place));
        }

        private int make(int a, int b, int c) {
            if (objectsMade == MOST_OBJECTS) {
                return OUT_OF_ROOM;
            }
            int object = objectsMade;
            objectsMade++;
            sizes[object] = b;
            for (int k = 0; k < b; k++) {
                cells[object * MOST_CELLS + k] = 0L;
            }
            if (c == 1) {
                keptObjects[keptMade] = object;
                keptMade++;
            }
            return become(a, address(object, 0));
        }

        private int store(int a, int b) {
            if (!isAddress(registers[a])) {
                return TRAPPED;
            }
            cells[cellOf(registers[a])] = registers[b];
            return GOING;
        }

        private int tell(int a) {
            if (isAddress(registers[a])) {
                return TRAPPED;
            }
            if (numbersPrinted == MOST_PRINTED) {
                return OUT_OF_ROOM;
            }
            numbers[numbersPrinted] = (int) registers[a];
            numbersPrinted++;
            return GOING;
        }

        private int goTo(int i) {
            at = i;
            return GOING;
        }

        private int decide(int a, int b) {
            if (isAddress(registers[a])) {
                return TRAPPED;
            }
            return registers[a] != 0L ? goTo(b) : GOING;
        }

        private static long number(int n) {
            return n & 0xFFFFFFFFL;
        }

        private static long address(int object, int place) {
            return (long) (object + 1) << 32 | place;
        }

        private static boolean isAddress(long value) {
            return value >>> 32 != 0L;
        }

        private static int objectOf(long address) {
            return (int) (address >>> 32) - 1;
        }

        private static int cellOf(long address) {
            return objectOf(address) * MOST_CELLS + (int) address;
        }
    }
}
