import java.util.ArrayList;
import java.util.List;
import java.util.Map;
import java.util.TreeMap;
import java.util.function.Consumer;
import java.util.function.IntPredicate;
import java.util.function.Supplier;

/**
 * What each call that changes something changes, and that it changes nothing else: all that an object answers is
 * compared with what it answered before, but for what is told here to be another answer now.
 */
public final class NothingElseTest {
    private static final int NONE = FetchHouse.NONE, SERVER = FetchHouse.SERVER, CLIENT = FetchHouse.CLIENT;
    private static final int STALE = FetchHouse.STALE, LACKING = FetchHouse.LACKING;
    private static final int REFS = 4, SLOTS = 4, FILES = 100, MOST_MOVES = 3;

    private static final Checks CHECKS = new Checks();

    public static void main(String[] args) {
        theStart();
        make();
        setRef();
        fetch();
        load();
        protect();
        move();
        push();
        refusedPush();
        collect();
        CHECKS.end();
    }

    /**
     * The server: 0, 1 and 2 in a line, and 6; its refs 0 and 1 are for 2 and 6. The client: 2, shallow; 4, shallow,
     * that the server has no more and no ref is for; 5 on 2, its own; the file 20 alone of 4's, and the file 30, that
     * none of its commits has. The refs 0 and 2 are protected, the latter for none, and one move waits.
     */
    private static FetchHouse start() {
        FetchHouse x = new FetchHouse();
        x.make(SERVER, NONE, NONE, 0, 10);
        x.make(SERVER, 0, NONE, 1, 11);
        x.make(SERVER, 1, NONE, 2, 12);
        x.make(SERVER, NONE, NONE, 0, 20);
        x.make(SERVER, 3, NONE, 1, 21);
        x.setRef(SERVER, 0, 2);
        x.setRef(SERVER, 1, 4);
        x.fetch(0, 1, false);
        x.fetch(1, 1, false);
        x.load(20);
        x.setRef(CLIENT, 1, NONE);
        x.setRef(SERVER, 1, NONE);
        x.collect(SERVER);
        x.make(CLIENT, 2, NONE, 3, 13);
        x.setRef(CLIENT, 3, 5);
        x.make(SERVER, NONE, NONE, 0, 30);
        x.setRef(SERVER, 1, 6);
        x.load(30);
        x.protect(0, true);
        x.protect(2, true);
        x.move(3, NONE, 5);
        return x;
    }

    private static void theStart() {
        CHECKS.promise("Terms");
        String[] want = {
            "commits: 7", "rounds: 1", "missing: 4", "waiting: 1", "protected: [0, 2]", "shallow: [2, 4]",
            "refs 0: [2, 6, -1, -1]", "has 0: [0, 1, 2, 6]", "files 0: [10, 11, 12, 30]",
            "refs 1: [2, -1, -1, 5]", "has 1: [2, 4, 5]", "files 1: [13, 20, 30]",
            "slots 0: [10, -1, -1, -1]", "slots 1: [10, 11, -1, -1]", "slots 2: [10, 11, 12, -1]",
            "slots 3: [20, -1, -1, -1]", "slots 4: [20, 21, -1, -1]", "slots 5: [10, 11, 12, 13]",
            "slots 6: [30, -1, -1, -1]",
            "ancestors 0 of 0: [0]", "ancestors 0 of 1: [0, 1]", "ancestors 0 of 2: [0, 1, 2]",
            "ancestors 0 of 3: []", "ancestors 0 of 4: []", "ancestors 0 of 5: []", "ancestors 0 of 6: [6]",
            "ancestors 1 of 0: []", "ancestors 1 of 1: []", "ancestors 1 of 2: [2]", "ancestors 1 of 3: []",
            "ancestors 1 of 4: [4]", "ancestors 1 of 5: [2, 5]", "ancestors 1 of 6: []",
            "would 0: 2 0", "would 1: 1 1", "would 2: throws", "would 3: throws",
            "push: 1", "pushed refs: [2, 6, -1, 5]", "pushed has: [0, 1, 2, 5, 6]",
            "pushed files: [10, 11, 12, 13, 30]"};
        same("the start", stateOf(NothingElseTest::start), changed(new TreeMap<>(), want));
    }

    private static void make() {
        CHECKS.promise("Promise 2: make");
        changes("make in the client without a file", x -> x.make(CLIENT, 5, NONE, 0, NONE),
                "commits: 8", "has 1: [2, 4, 5, 7]", "slots 7: [-1, 11, 12, 13]", "ancestors 0 of 7: []",
                "ancestors 1 of 7: [2, 5, 7]");
        changes("make on a shallow commit, with a file", x -> x.make(CLIENT, 4, 2, 2, 40),
                "commits: 8", "has 1: [2, 4, 5, 7]", "files 1: [13, 20, 30, 40]", "slots 7: [20, 21, 40, -1]",
                "ancestors 0 of 7: []", "ancestors 1 of 7: [2, 4, 7]");
        changes("make in the server with two parents", x -> x.make(SERVER, 2, 6, 3, 40),
                "commits: 8", "has 0: [0, 1, 2, 6, 7]", "files 0: [10, 11, 12, 30, 40]",
                "slots 7: [10, 11, 12, 40]", "ancestors 0 of 7: [0, 1, 2, 6, 7]", "ancestors 1 of 7: []",
                "pushed has: [0, 1, 2, 5, 6, 7]", "pushed files: [10, 11, 12, 13, 30, 40]");
    }

    private static void setRef() {
        CHECKS.promise("Promise 3: setRef");
        changes("setRef of a protected ref", x -> x.setRef(SERVER, 2, 6),
                "refs 0: [2, 6, 6, -1]", "would 2: 1 1", "pushed refs: [2, 6, 6, 5]");
        changes("setRef of the ref that a move is of", x -> x.setRef(SERVER, 3, 0),
                "refs 0: [2, 6, -1, 0]", "would 3: 1 1", "push: " + STALE, "pushed refs: [2, 6, -1, 0]",
                "pushed has: [0, 1, 2, 6]", "pushed files: [10, 11, 12, 30]");
        changes("setRef of the client's to a shallow commit", x -> x.setRef(CLIENT, 1, 4),
                "refs 1: [2, 4, -1, 5]");
        changes("setRef of the client's to none", x -> x.setRef(CLIENT, 3, NONE), "refs 1: [2, -1, -1, -1]");
        changes("setRef of the client's whose number is protected", x -> x.setRef(CLIENT, 0, 5),
                "refs 1: [5, -1, -1, 5]");
        changes("setRef that leaves a commit with missing files without refs", () -> {
            FetchHouse x = start();
            x.setRef(CLIENT, 3, NONE);
            x.collect(CLIENT);
            return x;
        }, x -> x.setRef(CLIENT, 0, NONE), "refs 1: [-1, -1, -1, -1]");
    }

    private static void fetch() {
        CHECKS.promise("Promise 6: fetch");
        changes("fetch without files", x -> x.fetch(1, 0, false),
                "refs 1: [2, 6, -1, 5]", "has 1: [2, 4, 5, 6]", "ancestors 1 of 6: [6]", "would 1: 0 0");
        changes("fetch with files of what it gets", x -> x.fetch(0, 0, true),
                "missing: 2", "has 1: [0, 1, 2, 4, 5]", "files 1: [10, 11, 13, 20, 30]", "shallow: [4]",
                "ancestors 1 of 0: [0]", "ancestors 1 of 1: [0, 1]", "ancestors 1 of 2: [0, 1, 2]",
                "ancestors 1 of 5: [0, 1, 2, 5]", "would 0: 0 0");
        changes("fetch that gets nothing", x -> x.fetch(0, 1, true));
        changes("fetch of a protected ref", () -> {
            FetchHouse x = start();
            x.setRef(CLIENT, 0, 5);
            return x;
        }, x -> x.fetch(0, 1, false), "refs 1: [2, -1, -1, 5]");
        changes("fetch that goes one step on", x -> x.fetch(0, 2, false),
                "has 1: [1, 2, 4, 5]", "shallow: [1, 4]", "ancestors 1 of 1: [1]", "ancestors 1 of 2: [1, 2]",
                "ancestors 1 of 5: [1, 2, 5]", "would 0: 1 0");
    }

    private static void load() {
        CHECKS.promise("Promise 9: load");
        changes("load of a missing file", x -> x.load(12), "missing: 3", "files 1: [12, 13, 20, 30]");
        changes("load of one that it has", x -> x.load(30));
    }

    private static void protect() {
        CHECKS.promise("Promise 11: protect");
        changes("protect", x -> x.protect(1, true), "protected: [0, 1, 2]");
        changes("protect of the ref that a move is of", x -> x.protect(3, true), "protected: [0, 2, 3]");
        changes("protect no more", x -> x.protect(2, false), "protected: [0]");
        changes("protect again", x -> x.protect(0, true));
    }

    private static void move() {
        CHECKS.promise("Promise 12: move");
        changes("move", x -> x.move(2, NONE, 2), "waiting: 2", "pushed refs: [2, 6, 2, 5]");
        changes("move that will be STALE", x -> x.move(0, 6, 5),
                "waiting: 2", "push: " + STALE, "pushed refs: [2, 6, -1, -1]", "pushed has: [0, 1, 2, 6]",
                "pushed files: [10, 11, 12, 30]");
    }

    private static void push() {
        CHECKS.promise("Promise 13: push");
        changes("push", FetchHouse::push,
                "waiting: 0", "refs 0: [2, 6, -1, 5]", "has 0: [0, 1, 2, 5, 6]", "files 0: [10, 11, 12, 13, 30]",
                "ancestors 0 of 5: [0, 1, 2, 5]", "would 3: 2 0", "push: 0");
        changes("push of nothing", NothingElseTest::start, x -> {
            x.push();
            x.push();
        }, "waiting: 0", "refs 0: [2, 6, -1, 5]", "has 0: [0, 1, 2, 5, 6]", "files 0: [10, 11, 12, 13, 30]",
                "ancestors 0 of 5: [0, 1, 2, 5]", "would 3: 2 0", "push: 0");
    }

    private static void refusedPush() {
        CHECKS.promise("Promise 13: push");
        String[] want = {"waiting: 0", "push: 0", "pushed refs: [2, 6, -1, -1]", "pushed has: [0, 1, 2, 6]",
            "pushed files: [10, 11, 12, 30]"};
        changes("push that is STALE", NothingElseTest::start, x -> {
            x.move(0, NONE, 5);
            x.push();
        }, want);
        changes("push that is BACK", NothingElseTest::start, x -> {
            x.move(0, 2, 4);
            x.push();
        }, want);
        changes("push that is LACKING", NothingElseTest::start, x -> {
            x.move(1, 6, 4);
            x.push();
        }, want);
    }

    private static void collect() {
        CHECKS.promise("Promise 14: collect");
        changes("collect of the client", x -> x.collect(CLIENT),
                "missing: 3", "has 1: [2, 5]", "files 1: [13]", "shallow: [2]", "ancestors 1 of 4: []");
        changes("collect of the server that needs all", x -> x.collect(SERVER));
        changes("collect of the server without its ref 0", () -> {
            FetchHouse x = start();
            x.setRef(SERVER, 0, NONE);
            return x;
        }, x -> x.collect(SERVER),
                "has 0: [6]", "files 0: [30]", "ancestors 0 of 0: []", "ancestors 0 of 1: []",
                "ancestors 0 of 2: []", "push: " + LACKING, "pushed refs: [-1, 6, -1, -1]", "pushed has: [6]",
                "pushed files: [30]");
        changes("collect of the client without refs", () -> {
            FetchHouse x = start();
            x.setRef(CLIENT, 0, NONE);
            x.setRef(CLIENT, 3, NONE);
            return x;
        }, x -> x.collect(CLIENT),
                "missing: 0", "has 1: []", "files 1: []", "shallow: []", "ancestors 1 of 2: []",
                "ancestors 1 of 4: []", "ancestors 1 of 5: []", "would 0: 3 1", "push: " + LACKING,
                "pushed refs: [2, 6, -1, -1]", "pushed has: [0, 1, 2, 6]", "pushed files: [10, 11, 12, 30]");
    }

    // ---- what an object answers, and what of that is another answer after a call

    private static void changes(String what, Consumer<FetchHouse> call, String... now) {
        changes(what, NothingElseTest::start, call, now);
    }

    private static void changes(String what, Supplier<FetchHouse> start, Consumer<FetchHouse> call, String... now) {
        Map<String, String> got = stateOf(() -> {
            FetchHouse x = start.get();
            call.accept(x);
            return x;
        });
        same(what, got, changed(stateOf(start), now));
    }

    private static Map<String, String> changed(Map<String, String> state, String... now) {
        Map<String, String> changed = new TreeMap<>(state);
        for (String each : now) {
            int end = each.indexOf(": ");
            changed.put(each.substring(0, end), each.substring(end + 2));
        }
        return changed;
    }

    private static void same(String what, Map<String, String> got, Map<String, String> want) {
        CHECKS.due("after " + what + ", what is answered", got.keySet(), want.keySet());
        for (String key : want.keySet()) {
            CHECKS.due("after " + what + ", " + key, got.get(key), want.get(key));
        }
    }

    /** Each look at an object of its own: some change it, and together they would be more than 512 calls. */
    private static Map<String, String> stateOf(Supplier<FetchHouse> start) {
        Map<String, String> state = new TreeMap<>();
        lookAtCounts(start.get(), state);
        lookAtCommits(start.get(), state);
        for (int store = SERVER; store <= CLIENT; store++) {
            lookAtStore(start.get(), store, state);
            lookAtAncestors(start.get(), store, state);
        }
        lookAtMoves(start.get(), state);
        lookAtPush(start.get(), state);
        return state;
    }

    private static void lookAtCounts(FetchHouse x, Map<String, String> state) {
        state.put("commits", "" + x.commits());
        state.put("rounds", "" + x.rounds());
        state.put("missing", "" + x.missing());
        for (int ref = 0; ref < REFS; ref++) {
            state.put("would " + ref,
                    x.ref(SERVER, ref) == NONE ? "throws" : x.wouldFetch(ref, 0) + " " + x.wouldFetch(ref, 1));
        }
        state.put("protected", those(REFS, ref -> !x.protect(ref, true)));
    }

    private static void lookAtCommits(FetchHouse x, Map<String, String> state) {
        int made = x.commits();
        state.put("shallow", those(made, x::isShallow));
        for (int commit = 0; commit < made; commit++) {
            List<Integer> slots = new ArrayList<>();
            for (int slot = 0; slot < SLOTS; slot++) {
                slots.add(x.fileAt(commit, slot));
            }
            state.put("slots " + commit, slots.toString());
        }
    }

    private static void lookAtStore(FetchHouse x, int store, Map<String, String> state) {
        state.put("refs " + store, refsOf(x, store));
        state.put("has " + store, those(x.commits(), commit -> x.has(store, commit)));
        state.put("files " + store, those(FILES, file -> x.hasFile(store, file)));
    }

    private static void lookAtAncestors(FetchHouse x, int store, Map<String, String> state) {
        int made = x.commits();
        for (int commit = 0; commit < made; commit++) {
            int of = commit;
            state.put("ancestors " + store + " of " + of, those(made, other -> x.isAncestor(store, other, of)));
        }
    }

    private static void lookAtMoves(FetchHouse x, Map<String, String> state) {
        int room = 0;
        while (room <= MOST_MOVES && Checks.thrownBy(() -> x.move(0, NONE, NONE)) == null) {
            room++;
        }
        state.put("waiting", "" + (MOST_MOVES - room));
    }

    private static void lookAtPush(FetchHouse x, Map<String, String> state) {
        state.put("push", "" + x.push());
        state.put("pushed refs", refsOf(x, SERVER));
        state.put("pushed has", those(x.commits(), commit -> x.has(SERVER, commit)));
        state.put("pushed files", those(FILES, file -> x.hasFile(SERVER, file)));
    }

    private static String refsOf(FetchHouse x, int store) {
        List<Integer> refs = new ArrayList<>();
        for (int ref = 0; ref < REFS; ref++) {
            refs.add(x.ref(store, ref));
        }
        return refs.toString();
    }

    private static String those(int end, IntPredicate which) {
        List<Integer> found = new ArrayList<>();
        for (int number = 0; number < end; number++) {
            if (which.test(number)) {
                found.add(number);
            }
        }
        return found.toString();
    }
}
