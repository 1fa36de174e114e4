import java.util.Arrays;

/** A server and a client of versioned stores, with talks, fetches, pushes and collecting between them. */
public final class FetchHouse {
    public static final int NONE = -1;
    public static final int SERVER = 0, CLIENT = 1;
    public static final int STALE = -2, BACK = -3, LACKING = -4;

    private static final int MOST_COMMITS = 60;
    private static final int SLOTS = 4;
    private static final int FILES = 100;
    private static final int REFS = 4;
    private static final int MOST_MOVES = 3;
    private static final int TOLD_IN_A_ROUND = 4;
    private static final int NO_REFUSAL = 0;

    private final History history;
    private final Store server;
    private final Store client;
    private final boolean[] protectedRefs;
    private final int[] movedRefs;
    private final int[] oldCommits;
    private final int[] newCommits;
    private int waitingMoves;
    private int latestRounds;

    public FetchHouse() {
        history = new History();
        server = new Store();
        client = new Store();
        protectedRefs = new boolean[REFS];
        movedRefs = new int[MOST_MOVES];
        oldCommits = new int[MOST_MOVES];
        newCommits = new int[MOST_MOVES];
    }

    // ---- commits and refs

    public int make(int store, int first, int second, int slot, int file)
            throws IndexOutOfBoundsException, IllegalArgumentException, IllegalStateException {
        Store maker = storeOf(store);
        checkSlot(slot);
        checkHeldOrNone(maker, first);
        checkHeldOrNone(maker, second);
        if (file != NONE) {
            checkFile(file);
        }
        if (second != NONE && (first == NONE || first == second)) {
            throw new IllegalArgumentException("a second parent needs another first one");
        }
        if (history.isFull()) {
            throw new IllegalStateException("60 commits were made");
        }
        int commit = history.append(first, second, slot, file);
        maker.heldCommits |= setOf(commit);
        maker.addFile(file);
        return commit;
    }

    public int setRef(int store, int ref, int commit) throws IndexOutOfBoundsException {
        Store owner = storeOf(store);
        checkRef(ref);
        checkHeldOrNone(owner, commit);
        int before = owner.commitOfRef(ref);
        owner.pointRef(ref, commit);
        return before;
    }

    public int ref(int store, int ref) throws IndexOutOfBoundsException {
        Store owner = storeOf(store);
        checkRef(ref);
        return owner.commitOfRef(ref);
    }

    public int fileAt(int commit, int slot) throws IndexOutOfBoundsException {
        checkCommit(commit);
        checkSlot(slot);
        return history.fileIn(commit, slot);
    }

    // ---- fetching

    public int fetch(int ref, int depth, boolean withFiles)
            throws IndexOutOfBoundsException, IllegalArgumentException, IllegalStateException {
        int commit = commitToFetch(ref, depth);
        long common = talk();
        long got = history.reachOf(commit, depth) & ~common;
        client.heldCommits |= got;
        if (withFiles) {
            client.addFiles(history.filesOf(got), server);
        }
        client.pointRef(ref, commit);
        return Long.bitCount(got);
    }

    public int wouldFetch(int ref, int depth)
            throws IndexOutOfBoundsException, IllegalArgumentException, IllegalStateException {
        int commit = commitToFetch(ref, depth);
        return Long.bitCount(history.reachOf(commit, depth) & ~client.heldCommits);
    }

    public int rounds() {
        return latestRounds;
    }

    public boolean load(int file) throws IllegalArgumentException, IllegalStateException {
        checkFile(file);
        if (!server.holdsFile(file)) {
            throw new IllegalStateException("the server does not have the file");
        }
        boolean isNew = !client.holdsFile(file);
        client.addFile(file);
        return isNew;
    }

    public int missing() {
        return client.countLacking(history.filesOf(client.heldCommits));
    }

    // ---- pushing

    public boolean protect(int ref, boolean isProtected) throws IndexOutOfBoundsException {
        checkRef(ref);
        boolean changes = protectedRefs[ref] != isProtected;
        protectedRefs[ref] = isProtected;
        return changes;
    }

    public int move(int ref, int old, int its) throws IndexOutOfBoundsException, IllegalStateException {
        checkRef(ref);
        checkCommitOrNone(old);
        checkCommitOrNone(its);
        if (waitingMoves >= MOST_MOVES) {
            throw new IllegalStateException("3 moves wait");
        }
        movedRefs[waitingMoves] = ref;
        oldCommits[waitingMoves] = old;
        newCommits[waitingMoves] = its;
        waitingMoves++;
        return waitingMoves;
    }

    public int push() {
        int refusal = firstRefusal();
        int answer = refusal == NO_REFUSAL ? doMoves() : refusal;
        waitingMoves = 0;
        return answer;
    }

    // ---- collecting

    public int collect(int store) throws IndexOutOfBoundsException {
        Store owner = storeOf(store);
        long kept = history.ancestorsOf(owner.commitsOfRefs(), owner.heldCommits);
        int dropped = Long.bitCount(owner.heldCommits & ~kept);
        owner.heldCommits = kept;
        owner.keepOnlyFiles(history.filesOf(kept));
        return dropped;
    }

    // ---- what there is

    public int commits() {
        return history.size();
    }

    public boolean has(int store, int commit) throws IndexOutOfBoundsException {
        Store owner = storeOf(store);
        checkCommit(commit);
        return contains(owner.heldCommits, commit);
    }

    public boolean hasFile(int store, int file) throws IndexOutOfBoundsException, IllegalArgumentException {
        Store owner = storeOf(store);
        checkFile(file);
        return owner.holdsFile(file);
    }

    public boolean isShallow(int commit) throws IndexOutOfBoundsException {
        checkCommit(commit);
        return contains(history.shallowOf(client.heldCommits), commit);
    }

    public boolean isAncestor(int store, int commit, int other) throws IndexOutOfBoundsException {
        Store owner = storeOf(store);
        checkCommit(commit);
        checkCommit(other);
        return contains(history.ancestorsOf(setOf(other), owner.heldCommits), commit);
    }

    // ---- what fetches and pushes are made of

    private int commitToFetch(int ref, int depth) {
        checkRef(ref);
        if (depth < 0 || depth > MOST_COMMITS) {
            throw new IllegalArgumentException("a depth is 0 to 60");
        }
        int commit = server.commitOfRef(ref);
        if (commit == NONE) {
            throw new IllegalStateException("the server's ref is for none");
        }
        return commit;
    }

    /** Returns what is common. An answer counts only from the next round on, as a round is told whole. */
    private long talk() {
        long common = 0;
        long untold = client.heldCommits;
        int told = 0;
        // Each round tells at least one commit, so there are no more rounds than commits.
        for (; untold != 0 && told < MOST_COMMITS; told++) {
            long round = highestOf(untold, TOLD_IN_A_ROUND);
            common |= history.ancestorsOf(round & server.heldCommits, client.heldCommits);
            untold &= ~round & ~common;
        }
        latestRounds = told;
        return common;
    }

    private int firstRefusal() {
        for (int index = 0; index < waitingMoves; index++) {
            int refusal = refusalOf(movedRefs[index], oldCommits[index], newCommits[index]);
            if (refusal != NO_REFUSAL) {
                return refusal;
            }
        }
        return NO_REFUSAL;
    }

    private int refusalOf(int ref, int old, int its) {
        if (server.commitOfRef(ref) != old) {
            return STALE;
        }
        long ancestors = history.ancestorsOf(setOf(its), client.heldCommits);
        if (isProtectedRef(ref) && old != NONE && !contains(ancestors, old)) {
            return BACK;
        }
        if (its != NONE && (ancestors == 0 || endsBeyondServer(ancestors))) {
            return LACKING;
        }
        return NO_REFUSAL;
    }

    private boolean endsBeyondServer(long ancestors) {
        return (ancestors & history.shallowOf(client.heldCommits) & ~server.heldCommits) != 0;
    }

    private int doMoves() {
        long targets = 0;
        for (int index = 0; index < waitingMoves; index++) {
            server.pointRef(movedRefs[index], newCommits[index]);
            targets |= setOf(newCommits[index]);
        }
        long sent = history.ancestorsOf(targets, client.heldCommits);
        int got = Long.bitCount(sent & ~server.heldCommits);
        server.heldCommits |= sent;
        server.addFiles(history.filesOf(sent), client);
        return got;
    }

    // ---- checks of arguments

    private Store storeOf(int store) {
        if (store != SERVER && store != CLIENT) {
            throw new IndexOutOfBoundsException("no such store");
        }
        return store == SERVER ? server : client;
    }

    private void checkCommit(int commit) {
        if (!history.isCommit(commit)) {
            throw new IndexOutOfBoundsException("no such commit");
        }
    }

    private void checkCommitOrNone(int commit) {
        if (commit != NONE) {
            checkCommit(commit);
        }
    }

    private static void checkHeldOrNone(Store store, int commit) {
        if (commit != NONE && !contains(store.heldCommits, commit)) {
            throw new IndexOutOfBoundsException("the store has no such commit");
        }
    }

    private static void checkSlot(int slot) {
        if (!isSlot(slot)) {
            throw new IndexOutOfBoundsException("a slot is 0 to 3");
        }
    }

    private static void checkRef(int ref) {
        if (!isRef(ref)) {
            throw new IndexOutOfBoundsException("a ref is 0 to 3");
        }
    }

    private static void checkFile(int file) {
        if (!isFile(file)) {
            throw new IllegalArgumentException("a file is 0 to 99");
        }
    }

    private static boolean isSlot(int slot) {
        return slot >= 0 && slot < SLOTS;
    }

    private static boolean isRef(int ref) {
        return ref >= 0 && ref < REFS;
    }

    private static boolean isFile(int file) {
        return file >= 0 && file < FILES;
    }

    private boolean isProtectedRef(int ref) {
        return isRef(ref) && protectedRefs[ref];
    }

    // ---- sets of commits: one bit of a long for each, as there are at most 60, and no call needs new rows

    /** The set of one commit; the empty one for NONE. */
    private static long setOf(int commit) {
        return commit >= 0 && commit < MOST_COMMITS ? 1L << commit : 0L;
    }

    private static boolean contains(long set, int commit) {
        return (set & setOf(commit)) != 0;
    }

    private static long highestOf(long set, int most) {
        long found = 0;
        int left = most;
        for (int commit = MOST_COMMITS - 1; commit >= 0 && left > 0; commit--) {
            if (contains(set, commit)) {
                found |= setOf(commit);
                left--;
            }
        }
        return found;
    }

    /** All commits that were ever made, with what never changes of them: parents and files in slots. */
    private static final class History {
        private final int[] firstParents = new int[MOST_COMMITS];
        private final int[] secondParents = new int[MOST_COMMITS];
        private final int[] slotFiles = new int[MOST_COMMITS * SLOTS];
        private final int[] fewestSteps = new int[MOST_COMMITS];
        private final boolean[] foundFiles = new boolean[FILES];
        private int made;

        int size() {
            return made;
        }

        boolean isFull() {
            return made >= MOST_COMMITS;
        }

        boolean isCommit(int commit) {
            return commit >= 0 && commit < made;
        }

        int append(int first, int second, int slot, int file) {
            if (isFull()) {
                return NONE;
            }
            int commit = made;
            firstParents[commit] = first;
            secondParents[commit] = second;
            for (int each = 0; each < SLOTS; each++) {
                slotFiles[commit * SLOTS + each] = each == slot ? file : fileIn(first, each);
            }
            made++;
            return commit;
        }

        /** NONE also for a commit that is NONE: a commit without a first parent starts without files. */
        int fileIn(int commit, int slot) {
            return isCommit(commit) && isSlot(slot) ? slotFiles[commit * SLOTS + slot] : NONE;
        }

        /** The row is used again by the next call. */
        boolean[] filesOf(long commits) {
            for (int file = 0; file < FILES; file++) {
                foundFiles[file] = false;
            }
            for (int commit = 0; commit < made; commit++) {
                if (contains(commits, commit)) {
                    findFilesOf(commit);
                }
            }
            return foundFiles;
        }

        private void findFilesOf(int commit) {
            for (int slot = 0; slot < SLOTS; slot++) {
                int file = fileIn(commit, slot);
                if (isFile(file)) {
                    foundFiles[file] = true;
                }
            }
        }

        private long parentsOf(int commit) {
            return isCommit(commit) ? setOf(firstParents[commit]) | setOf(secondParents[commit]) : 0L;
        }

        /**
         * Those of a store's commits that lack a parent there. The server's never do: it makes commits only on
         * parents that it has, a push that would leave one out is LACKING, and collecting keeps ancestors whole.
         */
        long shallowOf(long held) {
            long shallow = 0;
            for (int commit = 0; commit < made; commit++) {
                if (contains(held, commit) && (parentsOf(commit) & ~held) != 0) {
                    shallow |= setOf(commit);
                }
            }
            return shallow;
        }

        /** The ancestors of some commits in a store that has the held ones; what the store lacks has none. */
        long ancestorsOf(long starts, long held) {
            long unfollowed = shallowOf(held);
            long found = starts & held;
            // Parents have lower numbers than their children, so one pass by falling numbers finds all.
            for (int commit = made - 1; commit >= 0; commit--) {
                if (contains(found & ~unfollowed, commit)) {
                    found |= parentsOf(commit);
                }
            }
            return found;
        }

        /** The reach of a commit of the server, which has all of the commit's ancestors. */
        long reachOf(int start, int depth) {
            if (!isCommit(start)) {
                return 0L;
            }
            // With all 60 commits in one line the last is 59 steps away.
            int tooFar = depth == 0 ? MOST_COMMITS : depth;
            Arrays.fill(fewestSteps, tooFar);
            fewestSteps[start] = 0;
            long reach = 0;
            // By falling numbers all children of a commit come ahead of it, so its fewest steps are known then.
            for (int commit = start; commit >= 0; commit--) {
                int steps = fewestSteps[commit];
                if (steps < tooFar) {
                    reach |= setOf(commit);
                    comeTo(firstParents[commit], steps + 1);
                    comeTo(secondParents[commit], steps + 1);
                }
            }
            return reach;
        }

        private void comeTo(int commit, int steps) {
            if (isCommit(commit) && steps < fewestSteps[commit]) {
                fewestSteps[commit] = steps;
            }
        }
    }

    /** What one of the two has: a set of commits, files and refs. */
    private static final class Store {
        private long heldCommits;
        private final boolean[] heldFiles = new boolean[FILES];
        private final int[] refCommits = new int[REFS];

        Store() {
            Arrays.fill(refCommits, NONE);
        }

        int commitOfRef(int ref) {
            return isRef(ref) ? refCommits[ref] : NONE;
        }

        void pointRef(int ref, int commit) {
            if (isRef(ref)) {
                refCommits[ref] = commit;
            }
        }

        long commitsOfRefs() {
            long targets = 0;
            for (int ref = 0; ref < REFS; ref++) {
                targets |= setOf(refCommits[ref]);
            }
            return targets;
        }

        boolean holdsFile(int file) {
            return isFile(file) && heldFiles[file];
        }

        /** Does nothing for NONE. */
        void addFile(int file) {
            if (isFile(file)) {
                heldFiles[file] = true;
            }
        }

        void addFiles(boolean[] wanted, Store from) {
            for (int file = 0; file < FILES && file < wanted.length; file++) {
                if (wanted[file] && from.holdsFile(file)) {
                    heldFiles[file] = true;
                }
            }
        }

        void keepOnlyFiles(boolean[] needed) {
            for (int file = 0; file < FILES && file < needed.length; file++) {
                heldFiles[file] = heldFiles[file] && needed[file];
            }
        }

        int countLacking(boolean[] needed) {
            int lacking = 0;
            for (int file = 0; file < FILES && file < needed.length; file++) {
                if (needed[file] && !heldFiles[file]) {
                    lacking++;
                }
            }
            return lacking;
        }
    }
}
