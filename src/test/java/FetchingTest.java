import java.util.function.Supplier;

/** Promises 6 to 10: fetch, wouldFetch, rounds, load, missing. */
public final class FetchingTest {
    private static final int NONE = FetchHouse.NONE, SERVER = FetchHouse.SERVER, CLIENT = FetchHouse.CLIENT;
    private static final Class<?> INDEX = IndexOutOfBoundsException.class;
    private static final Class<?> ARGUMENT = IllegalArgumentException.class;
    private static final Class<?> STATE = IllegalStateException.class;

    private static final Checks CHECKS = new Checks();

    public static void main(String[] args) {
        fetchAll();
        fetchByDepth();
        fetchTakesTheShortestWay();
        fetchWithoutFiles();
        fetchBringsFilesOfNewCommitsOnly();
        fetchWhatTheServerLacks();
        fetchDeepensAShallowEnd();
        fetchAcrossSixty();
        fetchRefuses();
        wouldFetch();
        wouldFetchRefuses();
        rounds();
        roundsAnswerAfterTheRound();
        roundsStopAtShallowCommits();
        load();
        missing();
        CHECKS.end();
    }

    /** The server's line 0 to last, file 10 + n in slot n % 4 of commit n, ref 0 for the last. */
    private static FetchHouse line(int last) {
        FetchHouse x = new FetchHouse();
        for (int commit = 0; commit <= last; commit++) {
            x.make(SERVER, commit - 1, NONE, commit % 4, 10 + commit);
        }
        x.setRef(SERVER, 0, last);
        return x;
    }

    /** 0 <- 1 <- 2 <- 3 <- 4, and 4's second parent is 0. */
    private static FetchHouse shortcut() {
        FetchHouse x = new FetchHouse();
        x.make(SERVER, NONE, NONE, 0, 0);
        x.make(SERVER, 0, NONE, 0, 1);
        x.make(SERVER, 1, NONE, 0, 2);
        x.make(SERVER, 2, NONE, 0, 3);
        x.make(SERVER, 3, 0, 0, 4);
        x.setRef(SERVER, 2, 4);
        return x;
    }

    private static void fetchAll() {
        CHECKS.promise("Promise 6: fetch");
        FetchHouse x = line(4);
        x.make(SERVER, 1, NONE, 0, 50);
        CHECKS.due("fetch(0, 0, true)", x.fetch(0, 0, true), 5);
        for (int commit = 0; commit <= 4; commit++) {
            CHECKS.due("has(1, " + commit + ")", x.has(CLIENT, commit), true);
            CHECKS.due("hasFile(1, " + (10 + commit) + ")", x.hasFile(CLIENT, 10 + commit), true);
        }
        CHECKS.due("what is no ancestor stays", x.has(CLIENT, 5) || x.hasFile(CLIENT, 50), false);
        CHECKS.due("ref(1, 0)", x.ref(CLIENT, 0), 4);
        CHECKS.due("the server's ref", x.ref(SERVER, 0), 4);
        CHECKS.due("again", x.fetch(0, 0, true), 0);
        x.setRef(SERVER, 3, 1);
        CHECKS.due("another ref for what the client has", x.fetch(3, 0, true), 0);
        CHECKS.due("ref(1, 3)", x.ref(CLIENT, 3), 1);
        x.setRef(SERVER, 0, 2);
        CHECKS.due("a ref that went back", x.fetch(0, 1, true), 0);
        CHECKS.due("ref(1, 0)", x.ref(CLIENT, 0), 2);
        CHECKS.due("others are as they were", x.ref(CLIENT, 3), 1);
    }

    private static void fetchByDepth() {
        FetchHouse one = line(4);
        CHECKS.due("fetch(0, 1, true)", one.fetch(0, 1, true), 1);
        CHECKS.due("has(1, 4)", one.has(CLIENT, 4), true);
        CHECKS.due("has(1, 3)", one.has(CLIENT, 3), false);
        CHECKS.due("isShallow(4)", one.isShallow(4), true);
        FetchHouse two = line(4);
        CHECKS.due("fetch(0, 2, true)", two.fetch(0, 2, true), 2);
        CHECKS.due("isShallow(3)", two.isShallow(3), true);
        CHECKS.due("isShallow(4)", two.isShallow(4), false);
        CHECKS.due("just all", line(4).fetch(0, 5, true), 5);
        CHECKS.due("one less than all", line(4).fetch(0, 4, true), 4);
        CHECKS.due("fetch(0, 60, true)", line(4).fetch(0, 60, true), 5);
    }

    private static void fetchTakesTheShortestWay() {
        FetchHouse x = shortcut();
        CHECKS.due("fetch(2, 2, true)", x.fetch(2, 2, true), 3);
        CHECKS.due("has(1, 0)", x.has(CLIENT, 0), true);
        CHECKS.due("has(1, 1)", x.has(CLIENT, 1), false);
        CHECKS.due("has(1, 2)", x.has(CLIENT, 2), false);
        CHECKS.due("fetch(2, 3, true)", x.fetch(2, 3, true), 1);
        CHECKS.due("has(1, 2)", x.has(CLIENT, 2), true);
        CHECKS.due("fetch(2, 4, true)", x.fetch(2, 4, true), 1);
        CHECKS.due("isAncestor(1, 0, 1)", x.isAncestor(CLIENT, 0, 1), true);
    }

    private static void fetchWithoutFiles() {
        FetchHouse x = line(2);
        CHECKS.due("fetch(0, 0, false)", x.fetch(0, 0, false), 3);
        for (int file = 10; file <= 12; file++) {
            CHECKS.due("hasFile(1, " + file + ")", x.hasFile(CLIENT, file), false);
        }
        CHECKS.due("ref(1, 0)", x.ref(CLIENT, 0), 2);
    }

    private static void fetchBringsFilesOfNewCommitsOnly() {
        FetchHouse x = new FetchHouse();
        x.make(SERVER, NONE, NONE, 0, 1);
        x.make(SERVER, 0, NONE, 0, 2);
        x.setRef(SERVER, 0, 0);
        x.setRef(SERVER, 1, 1);
        x.fetch(0, 0, false);
        CHECKS.due("fetch(1, 0, true)", x.fetch(1, 0, true), 1);
        CHECKS.due("the file of the new one", x.hasFile(CLIENT, 2), true);
        CHECKS.due("the file of one that is common", x.hasFile(CLIENT, 1), false);
        FetchHouse y = line(3);
        y.fetch(0, 2, true);
        CHECKS.due("slots that came from parents, too", y.hasFile(CLIENT, 10), true);
    }

    private static void fetchWhatTheServerLacks() {
        FetchHouse x = line(1);
        x.fetch(0, 0, false);
        x.setRef(SERVER, 0, NONE);
        x.collect(SERVER);
        x.move(0, NONE, 1);
        CHECKS.due("push()", x.push(), 2);
        x.setRef(CLIENT, 0, NONE);
        x.collect(CLIENT);
        CHECKS.due("fetch(0, 0, true)", x.fetch(0, 0, true), 2);
        CHECKS.due("a file that the server lacks", x.hasFile(CLIENT, 10) || x.hasFile(CLIENT, 11), false);
        CHECKS.due("missing()", x.missing(), 2);
    }

    private static void fetchDeepensAShallowEnd() {
        FetchHouse x = line(5);
        x.fetch(0, 2, true);
        CHECKS.due("by one", x.fetch(0, 3, false), 1);
        CHECKS.due("isShallow(3)", x.isShallow(3), true);
        CHECKS.due("isShallow(4)", x.isShallow(4), false);
        x.setRef(SERVER, 1, 1);
        CHECKS.due("an island", x.fetch(1, 1, true), 1);
        CHECKS.due("to the island", x.fetch(0, 4, true), 1);
        CHECKS.due("isAncestor(1, 1, 5)", x.isAncestor(CLIENT, 1, 5), true);
        CHECKS.due("isAncestor(1, 0, 5)", x.isAncestor(CLIENT, 0, 5), false);
        CHECKS.due("the rest", x.fetch(0, 0, true), 1);
        CHECKS.due("isShallow(1)", x.isShallow(1), false);
    }

    private static void fetchAcrossSixty() {
        CHECKS.due("all of 60", line(59).fetch(0, 0, true), 60);
        CHECKS.due("depth 60 of 60", line(59).fetch(0, 60, true), 60);
        FetchHouse x = line(59);
        CHECKS.due("depth 59 of 60", x.fetch(0, 59, true), 59);
        CHECKS.due("has(1, 0)", x.has(CLIENT, 0), false);
    }

    private static void fetchRefuses() {
        Supplier<FetchHouse> start = () -> {
            FetchHouse x = line(2);
            x.setRef(SERVER, 1, 1);
            x.fetch(1, 0, false);
            return x;
        };
        CHECKS.refused("fetch(-1, 0, true)", INDEX, start, x -> x.fetch(-1, 0, true));
        CHECKS.refused("fetch(4, 0, true)", INDEX, start, x -> x.fetch(4, 0, true));
        CHECKS.refused("fetch(0, -1, true)", ARGUMENT, start, x -> x.fetch(0, -1, true));
        CHECKS.refused("fetch(0, 61, true)", ARGUMENT, start, x -> x.fetch(0, 61, true));
        CHECKS.refused("fetch(2, 0, true)", STATE, start, x -> x.fetch(2, 0, true));
        CHECKS.refused("fetch(4, 61, true)", INDEX, start, x -> x.fetch(4, 61, true));
        CHECKS.refused("fetch(2, 61, true)", ARGUMENT, start, x -> x.fetch(2, 61, true));
        CHECKS.refused("a ref that only the client has", STATE, () -> {
            FetchHouse x = start.get();
            x.setRef(CLIENT, 2, 0);
            return x;
        }, x -> x.fetch(2, 0, true));
    }

    private static void wouldFetch() {
        CHECKS.promise("Promise 7: wouldFetch");
        FetchHouse x = line(4);
        CHECKS.due("wouldFetch(0, 0)", x.wouldFetch(0, 0), 5);
        CHECKS.due("wouldFetch(0, 1)", x.wouldFetch(0, 1), 1);
        CHECKS.due("wouldFetch(0, 4)", x.wouldFetch(0, 4), 4);
        CHECKS.due("wouldFetch(0, 5)", x.wouldFetch(0, 5), 5);
        CHECKS.due("wouldFetch(0, 60)", x.wouldFetch(0, 60), 5);
        x.fetch(0, 2, true);
        CHECKS.due("wouldFetch(0, 2)", x.wouldFetch(0, 2), 0);
        CHECKS.due("wouldFetch(0, 3)", x.wouldFetch(0, 3), 1);
        CHECKS.due("wouldFetch(0, 0)", x.wouldFetch(0, 0), 3);
        FetchHouse y = shortcut();
        CHECKS.due("by the shortest way", y.wouldFetch(2, 2), 3);
        CHECKS.due("by the shortest way, and one more", y.wouldFetch(2, 3), 4);
        CHECKS.asksOnly("wouldFetch(0, 3)", () -> {
            FetchHouse z = line(9);
            z.fetch(0, 6, true);
            z.fetch(0, 6, true);
            return z;
        }, z -> z.wouldFetch(0, 0));
    }

    private static void wouldFetchRefuses() {
        Supplier<FetchHouse> start = () -> line(2);
        CHECKS.refused("wouldFetch(-1, 0)", INDEX, start, x -> x.wouldFetch(-1, 0));
        CHECKS.refused("wouldFetch(4, 0)", INDEX, start, x -> x.wouldFetch(4, 0));
        CHECKS.refused("wouldFetch(0, -1)", ARGUMENT, start, x -> x.wouldFetch(0, -1));
        CHECKS.refused("wouldFetch(0, 61)", ARGUMENT, start, x -> x.wouldFetch(0, 61));
        CHECKS.refused("wouldFetch(1, 0)", STATE, start, x -> x.wouldFetch(1, 0));
        CHECKS.refused("wouldFetch(-1, -1)", INDEX, start, x -> x.wouldFetch(-1, -1));
        CHECKS.refused("wouldFetch(1, -1)", ARGUMENT, start, x -> x.wouldFetch(1, -1));
    }

    private static void rounds() {
        CHECKS.promise("Promise 8: rounds");
        FetchHouse x = line(0);
        x.fetch(0, 0, true);
        CHECKS.due("with an empty client", x.rounds(), 0);
        for (int made = 1; made <= 12; made++) {
            x.make(CLIENT, made == 1 ? NONE : made - 1, NONE, 0, NONE);
            x.fetch(0, 0, true);
            CHECKS.due("with " + made + " more in the client", x.rounds(), made / 4 + 1);
        }
        int before = x.rounds();
        x.move(1, NONE, 12);
        x.push();
        x.wouldFetch(0, 0);
        Checks.thrownBy(() -> x.fetch(2, 0, true));
        CHECKS.due("a push, wouldFetch and a refused fetch are no talks", x.rounds(), before);
        x.fetch(1, 0, true);
        CHECKS.due("all that were pushed are common after a round, but one that is told", x.rounds(), 2);
        x.setRef(CLIENT, 0, NONE);
        x.setRef(CLIENT, 1, NONE);
        x.collect(CLIENT);
        x.fetch(0, 0, true);
        CHECKS.due("the latest counts", x.rounds(), 0);
        CHECKS.asksOnly("rounds()", () -> line(1), y -> y.rounds());
    }

    /** 5 and 4 to 2 are told in one round, though 5 is in the server and makes them common; then 1 alone is left. */
    private static void roundsAnswerAfterTheRound() {
        FetchHouse x = new FetchHouse();
        x.make(CLIENT, NONE, NONE, 0, NONE);
        x.make(CLIENT, NONE, NONE, 0, NONE);
        x.make(CLIENT, 0, NONE, 0, NONE);
        x.make(CLIENT, 2, NONE, 0, NONE);
        x.make(CLIENT, 3, NONE, 0, NONE);
        x.make(CLIENT, 4, NONE, 0, NONE);
        x.move(0, NONE, 5);
        x.push();
        x.fetch(0, 0, true);
        CHECKS.due("a round is told whole", x.rounds(), 2);
    }

    /** The client has 8 of the line, and 0 to 4 apart from it: 8's ancestors in the client end at 8. */
    private static void roundsStopAtShallowCommits() {
        FetchHouse x = line(8);
        x.setRef(SERVER, 1, 4);
        x.fetch(1, 0, true);
        x.fetch(0, 1, true);
        CHECKS.due("one round for 4 to 1", x.rounds(), 1);
        x.fetch(0, 1, true);
        CHECKS.due("8, 4, 3 and 2 in one round, the rest is common by 4", x.rounds(), 1);
        for (int made = 0; made < 3; made++) {
            x.make(CLIENT, NONE, NONE, 0, NONE);
        }
        CHECKS.due("fetch(0, 1, true)", x.fetch(0, 1, true), 0);
        CHECKS.due("11, 10, 9 and 8, then 4 to 1, as 8 is shallow", x.rounds(), 2);
        x.fetch(0, 0, true);
        x.fetch(0, 0, true);
        CHECKS.due("11, 10, 9 and 8, of which all others are ancestors", x.rounds(), 1);
    }

    private static void load() {
        CHECKS.promise("Promise 9: load");
        FetchHouse x = line(1);
        CHECKS.due("load(10)", x.load(10), true);
        CHECKS.due("hasFile(1, 10)", x.hasFile(CLIENT, 10), true);
        CHECKS.due("hasFile(1, 11)", x.hasFile(CLIENT, 11), false);
        CHECKS.due("again", x.load(10), false);
        x.make(SERVER, NONE, NONE, 0, 0);
        x.make(SERVER, NONE, NONE, 0, 99);
        CHECKS.due("load(0)", x.load(0), true);
        CHECKS.due("load(99)", x.load(99), true);
        CHECKS.due("no commit comes", x.has(CLIENT, 0), false);
        CHECKS.due("rounds()", x.rounds(), 0);
        Supplier<FetchHouse> start = () -> {
            FetchHouse y = line(1);
            y.make(CLIENT, NONE, NONE, 0, 5);
            return y;
        };
        CHECKS.refused("load(-1)", ARGUMENT, start, y -> y.load(-1));
        CHECKS.refused("load(100)", ARGUMENT, start, y -> y.load(100));
        CHECKS.refused("load(77)", STATE, start, y -> y.load(77));
        CHECKS.refused("load(5), which only the client has", STATE, start, y -> y.load(5));
    }

    private static void missing() {
        CHECKS.promise("Promise 10: missing");
        FetchHouse x = line(5);
        CHECKS.due("without commits", x.missing(), 0);
        x.fetch(0, 2, false);
        CHECKS.due("of the two last, each file once", x.missing(), 5);
        x.load(15);
        CHECKS.due("after one was loaded", x.missing(), 4);
        x.load(10);
        CHECKS.due("after one that no commit of the client has", x.missing(), 4);
        x.fetch(0, 0, true);
        CHECKS.due("files of new commits come, also for the others", x.missing(), 1);
        x.make(CLIENT, NONE, NONE, 0, 40);
        CHECKS.due("the client's own file", x.missing(), 1);
        CHECKS.asksOnly("missing()", () -> {
            FetchHouse y = line(3);
            y.fetch(0, 0, false);
            return y;
        }, y -> y.missing());
    }
}
