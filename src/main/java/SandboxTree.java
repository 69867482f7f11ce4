/**
 * Worlds of steps: each sees just what it declared, writes just what it declared, and has scratch of
 * its own. The words in capitals are those of the document's 'Terms'.
 */
public final class SandboxTree {
    public static final int NONE = -1;

    private static final int MAX_LIMIT = 500;
    private static final int MAX_PATHS = 60;
    private static final int MAX_ACTIONS = 10;
    private static final int MAX_DECLARED = 12;
    private static final int MAX_LINKS = 4;

    private static final int ROOT = 0;
    private static final char SCRATCH_LETTER = 'z';
    private static final int CASE_BIT = 'a' ^ 'A';
    private static final int LETTER_CODES = 'z' - 'A' + 1;

    private static final int DONE = 1;
    private static final int REFUSED = 0;
    private static final int NO_SUCH = -1;
    private static final int NOT_AS_TOLD = -2;
    private static final int NO_INPUT = -2;
    private static final int FAILED = 0;
    private static final int BROKEN = -2;
    private static final int CLASHING = -3;
    private static final int IN_THE_WAY = -4;
    private static final int OVER_LIMIT = -9;
    private static final int FIRST_LACKING = -10;
    private static final int FIRST_LOOSE = -11;
    private static final int NO_FAULT = 0;

    private final int limit;
    private final PathTree paths;
    private final Store sourceFiles;
    private final Action[] actions;
    private int actionCount;
    private boolean strictNow;

    public SandboxTree(int limit) {
        this.limit = Math.max(1, Math.min(MAX_LIMIT, limit));
        this.paths = new PathTree();
        this.sourceFiles = new Store();
        this.actions = new Action[MAX_ACTIONS];
    }

    public int path(int parent, char letter) {
        if (!paths.has(parent) || !isLetter(letter)) {
            return NONE;
        }
        int there = paths.find(parent, letter);
        return there != NONE ? there : paths.add(parent, letter);
    }

    public boolean file(int path, int content) {
        if (!paths.has(path) || path == ROOT || content < 0) {
            return false;
        }
        if ((paths.inTheWayOf(path) & sourceFiles.taken()) != 0L) {
            return false;
        }
        if (content == 0) {
            sourceFiles.takeAway(path);
        } else {
            sourceFiles.putFile(path, content);
        }
        return true;
    }

    public int source(int path) {
        return paths.has(path) ? sourceFiles.leadsTo(path) : 0;
    }

    public int action() {
        if (actionCount >= MAX_ACTIONS) {
            return NONE;
        }
        int made = actionCount;
        actions[made] = new Action();
        actionCount++;
        return made;
    }

    public int declare(int action, int path, boolean output) {
        Action known = actionAt(action);
        if (known == null || !paths.has(path) || path == ROOT) {
            return NO_SUCH;
        }
        if (known.declaredCount >= MAX_DECLARED || known.worldThere) {
            return NO_SUCH;
        }
        if (touchesDeclared(known, path)) {
            return NOT_AS_TOLD;
        }
        known.addDeclared(path, output);
        return DONE;
    }

    public void strict(boolean on) {
        strictNow = on;
    }

    public int begin(int action) {
        Action known = actionAt(action);
        if (known == null || known.worldThere) {
            return NO_SUCH;
        }
        if (lacksInput(known)) {
            return NO_INPUT;
        }
        known.startWorld();
        known.world.copyFiles(sourceFiles, underDeclared(known, false));
        return Long.bitCount(known.world.taken());
    }

    public int open(int action, int path) {
        Action running = runningAt(action);
        if (running == null || !paths.has(path)) {
            return NO_SUCH;
        }
        if (!running.startOperation(limit)) {
            return OVER_LIMIT;
        }
        int content = running.world.leadsTo(path);
        if (content == 0) {
            running.noteTried(path);
        }
        return content;
    }

    public int write(int action, int path, int content) {
        Action running = runningAt(action);
        if (running == null || !paths.has(path)) {
            return NO_SUCH;
        }
        if (!running.startOperation(limit)) {
            return OVER_LIMIT;
        }
        if (content < 1 || !canPut(running, path)) {
            return refuse(running);
        }
        running.world.putFile(path, content);
        return DONE;
    }

    public int link(int action, int path, int to) {
        Action running = runningAt(action);
        if (running == null || !paths.has(path) || !paths.has(to)) {
            return NO_SUCH;
        }
        if (!running.startOperation(limit)) {
            return OVER_LIMIT;
        }
        long linkable = writable(running) | underDeclared(running, false);
        if (!holds(linkable, to) || !canPut(running, path)) {
            return refuse(running);
        }
        running.world.putLink(path, to);
        return DONE;
    }

    public int remove(int action, int path) {
        Action running = runningAt(action);
        if (running == null || !paths.has(path)) {
            return NO_SUCH;
        }
        if (!running.startOperation(limit)) {
            return OVER_LIMIT;
        }
        if (!holds(writable(running) & running.world.taken(), path)) {
            return refuse(running);
        }
        running.world.takeAway(path);
        return DONE;
    }

    public int list(int action, int folder, int i) {
        Action running = runningAt(action);
        if (running == null || !paths.has(folder)) {
            return NO_SUCH;
        }
        if (!running.startOperation(limit)) {
            return OVER_LIMIT;
        }
        return paths.letterInFolder(folder, running.world.taken(), i);
    }

    public int finish(int action, boolean failed) {
        Action running = runningAt(action);
        if (running == null) {
            return NO_SUCH;
        }
        running.worldThere = false;
        if (failed) {
            return FAILED;
        }
        if (running.broken) {
            return BROKEN;
        }
        int fault = firstOutputFault(running);
        return fault != NO_FAULT ? fault : gather(running);
    }

    public int tried(int action, int i) {
        Action known = actionAt(action);
        if (known == null || i < 0 || i >= known.triedCount) {
            return NONE;
        }
        return known.triedPaths[i];
    }

    public int about(int action, int what) {
        Action known = actionAt(action);
        if (known == null) {
            return NONE;
        }
        if (what == 0) {
            return known.worldThere ? 1 : 0;
        }
        if (!known.hadWorld) {
            return NONE;
        }
        switch (what) {
            case 1:
                return known.operations;
            case 2:
                return known.refused;
            case 3:
                return known.broken ? 1 : 0;
            default:
                return NONE;
        }
    }

    private Action actionAt(int action) {
        return action >= 0 && action < actionCount ? actions[action] : null;
    }

    /** The ACTION whose WORLD is there, or null. */
    private Action runningAt(int action) {
        Action known = actionAt(action);
        return known != null && known.worldThere ? known : null;
    }

    /** No two DECLARED PATHS may be UNDER one another, whichever of them is INPUT or OUTPUT. */
    private boolean touchesDeclared(Action known, int path) {
        long touched = paths.inTheWayOf(path) | only(path);
        for (int place = 0; place < known.declaredCount; place++) {
            if (holds(touched, known.declaredPaths[place])) {
                return true;
            }
        }
        return false;
    }

    private boolean lacksInput(Action known) {
        for (int place = 0; place < known.declaredCount; place++) {
            if (!known.isOutput[place]) {
                long inside = paths.under(known.declaredPaths[place]);
                if ((inside & sourceFiles.taken()) == 0L) {
                    return true;
                }
            }
        }
        return false;
    }

    /** All PATHS UNDER OUTPUTS or UNDER INPUTS; asked anew each time, as PATHS may have come since. */
    private long underDeclared(Action known, boolean output) {
        long all = 0L;
        for (int place = 0; place < known.declaredCount; place++) {
            if (known.isOutput[place] == output) {
                all |= paths.under(known.declaredPaths[place]);
            }
        }
        return all;
    }

    private long writable(Action running) {
        return underDeclared(running, true) | scratch(running);
    }

    private long scratch(Action running) {
        int top = paths.find(ROOT, SCRATCH_LETTER);
        if (top == NONE) {
            return 0L;
        }
        return paths.under(top) & ~only(top) & ~underDeclared(running, false);
    }

    private boolean canPut(Action running, int path) {
        return holds(writable(running), path)
            && (paths.inTheWayOf(path) & running.world.taken()) == 0L;
    }

    private int refuse(Action running) {
        running.refused++;
        if (strictNow) {
            running.broken = true;
        }
        return REFUSED;
    }

    /** What finish answers of the first OUTPUT that is LACKING or LOOSE. */
    private int firstOutputFault(Action ended) {
        int k = 0;
        for (int place = 0; place < ended.declaredCount; place++) {
            if (ended.isOutput[place]) {
                long inside = paths.under(ended.declaredPaths[place]);
                if ((inside & ended.world.taken()) == 0L) {
                    return FIRST_LACKING - 2 * k;
                }
                if (ended.world.hasLooseLink(inside)) {
                    return FIRST_LOOSE - 2 * k;
                }
                k++;
            }
        }
        return NO_FAULT;
    }

    private int gather(Action ended) {
        long replaced = underDeclared(ended, true);
        long coming = replaced & ended.world.taken();
        long comingAndAbove = paths.withAbove(coming);
        if (paths.hasClash(comingAndAbove)) {
            return CLASHING;
        }
        // What is in a PATH that comes is UNDER the same OUTPUT and goes: only FILES above can stay.
        long staying = sourceFiles.taken() & ~replaced;
        if ((comingAndAbove & staying) != 0L) {
            return IN_THE_WAY;
        }
        for (int path = 1; path < MAX_PATHS; path++) {
            if (holds(coming, path)) {
                sourceFiles.putFile(path, ended.world.leadsTo(path));
            } else if (holds(replaced, path)) {
                sourceFiles.takeAway(path);
            }
        }
        return Long.bitCount(coming);
    }

    private static boolean isLetter(char letter) {
        return letter >= 'a' && letter <= 'z' || letter >= 'A' && letter <= 'Z';
    }

    // A set of PATHS is a long whose bit p stands for PATH p: the 60 PATHS fit into its 64 bits.

    private static long only(int path) {
        return 1L << path;
    }

    private static boolean holds(long set, int path) {
        return (set & only(path)) != 0L;
    }

    /** The PATHS that there are. */
    private static final class PathTree {
        private final int[] parents = new int[MAX_PATHS];
        private final char[] letters = new char[MAX_PATHS];
        /** Of each PATH: it and all that it is in. */
        private final long[] aboveSets = new long[MAX_PATHS];
        /** Of each PATH: all that is UNDER it. */
        private final long[] underSets = new long[MAX_PATHS];
        private int count = 1;

        PathTree() {
            parents[ROOT] = NONE;
            aboveSets[ROOT] = only(ROOT);
            underSets[ROOT] = only(ROOT);
        }

        boolean has(int path) {
            return path >= 0 && path < count;
        }

        int find(int parent, char letter) {
            for (int path = 1; path < count; path++) {
                if (parents[path] == parent && letters[path] == letter) {
                    return path;
                }
            }
            return NONE;
        }

        int add(int parent, char letter) {
            if (!has(parent) || count >= MAX_PATHS) {
                return NONE;
            }
            int path = count;
            count++;
            parents[path] = parent;
            letters[path] = letter;
            aboveSets[path] = aboveSets[parent] | only(path);
            for (int other = 0; other < count; other++) {
                if (holds(aboveSets[path], other)) {
                    underSets[other] |= only(path);
                }
            }
            return path;
        }

        long under(int path) {
            return has(path) ? underSets[path] : 0L;
        }

        /** The PATHS at which nothing may be if something is at this one: all above it, all in it. */
        long inTheWayOf(int path) {
            return has(path) ? (aboveSets[path] | underSets[path]) & ~only(path) : 0L;
        }

        long withAbove(long set) {
            long all = 0L;
            for (int path = 0; path < count; path++) {
                if (holds(set, path)) {
                    all |= aboveSets[path];
                }
            }
            return all;
        }

        boolean hasClash(long set) {
            for (int path = 1; path < count; path++) {
                if (holds(set, path)) {
                    int twin = find(parents[path], (char) (letters[path] ^ CASE_BIT));
                    if (twin != NONE && holds(set, twin)) {
                        return true;
                    }
                }
            }
            return false;
        }

        /** The i-th LETTER, by code, of those in a folder UNDER which one of the taken PATHS is; or 0. */
        int letterInFolder(int folder, long taken, int i) {
            long codes = 0L;
            for (int path = 1; path < count; path++) {
                if (parents[path] == folder && (underSets[path] & taken) != 0L) {
                    codes |= 1L << (letters[path] - 'A');
                }
            }
            int before = 0;
            for (int code = 0; code < LETTER_CODES; code++) {
                if ((codes & 1L << code) != 0L) {
                    if (before == i) {
                        return 'A' + code;
                    }
                    before++;
                }
            }
            return 0;
        }
    }

    /** FILES and LINKS at PATHS: what is in a WORLD, or the SOURCE, which never has LINKS. */
    private static final class Store {
        /** CONTENT where a FILE is, the PATH it is to where a LINK is. */
        private final int[] values = new int[MAX_PATHS];
        private long files;
        private long links;

        long taken() {
            return files | links;
        }

        void putFile(int path, int content) {
            if (canHold(path)) {
                takeAway(path);
                files |= only(path);
                values[path] = content;
            }
        }

        void putLink(int path, int to) {
            if (canHold(path) && canHold(to)) {
                takeAway(path);
                links |= only(path);
                values[path] = to;
            }
        }

        void takeAway(int path) {
            files &= ~only(path);
            links &= ~only(path);
        }

        /** In place of all that is here: the FILES of another store that are at these PATHS. */
        void copyFiles(Store from, long which) {
            files = from.files & which;
            links = 0L;
            System.arraycopy(from.values, 0, values, 0, MAX_PATHS);
        }

        /** CONTENT of the FILE that a PATH LEADS to; 0 if it LEADS to none. */
        int leadsTo(int path) {
            int at = path;
            for (int followed = 0; followed <= MAX_LINKS; followed++) {
                if (!canHold(at)) {
                    return 0;
                }
                if (holds(files, at)) {
                    return values[at];
                }
                if (!holds(links, at)) {
                    return 0;
                }
                at = values[at];
            }
            return 0;
        }

        boolean hasLooseLink(long where) {
            for (int path = 0; path < MAX_PATHS; path++) {
                if (holds(links & where, path) && leadsTo(path) == 0) {
                    return true;
                }
            }
            return false;
        }

        private static boolean canHold(int path) {
            return path >= 0 && path < MAX_PATHS;
        }
    }

    /** What an ACTION DECLARED, and its latest WORLD, which is kept to be asked about when it has ended. */
    private static final class Action {
        private final int[] declaredPaths = new int[MAX_DECLARED];
        private final boolean[] isOutput = new boolean[MAX_DECLARED];
        private int declaredCount;

        private final Store world = new Store();
        private boolean worldThere;
        private boolean hadWorld;
        private boolean broken;
        private int operations;
        private int refused;

        private final int[] triedPaths = new int[MAX_PATHS];
        private int triedCount;
        private long triedSet;

        void addDeclared(int path, boolean output) {
            if (declaredCount < MAX_DECLARED) {
                declaredPaths[declaredCount] = path;
                isOutput[declaredCount] = output;
                declaredCount++;
            }
        }

        void startWorld() {
            worldThere = true;
            hadWorld = true;
            broken = false;
            operations = 0;
            refused = 0;
            triedCount = 0;
            triedSet = 0L;
        }

        /** Counts one OPERATION more, or breaks the ACTION and answers false if that is one too many. */
        boolean startOperation(int limit) {
            if (operations >= limit) {
                broken = true;
                return false;
            }
            operations++;
            return true;
        }

        void noteTried(int path) {
            if (triedCount < MAX_PATHS && !holds(triedSet, path)) {
                triedSet |= only(path);
                triedPaths[triedCount] = path;
                triedCount++;
            }
        }
    }
}
