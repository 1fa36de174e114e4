import java.util.function.Function;
import java.util.function.Supplier;

/** The largest numbers: of commits, of steps and rounds, of waiting moves, of files, of calls. */
public final class LimitsTest {
    private static final int NONE = FetchHouse.NONE, SERVER = FetchHouse.SERVER, CLIENT = FetchHouse.CLIENT;
    private static final int STALE = FetchHouse.STALE;
    private static final int MOST_COMMITS = 60, MOST_CALLS = 512;
    private static final Class<?> INDEX = IndexOutOfBoundsException.class;
    private static final Class<?> ARGUMENT = IllegalArgumentException.class;
    private static final Class<?> STATE = IllegalStateException.class;

    private static final Checks CHECKS = new Checks();

    public static void main(String[] args) {
        sixtyCommits();
        sixtyEver();
        refusedMakesCountNot();
        commitsTheLastCan();
        steps();
        wholeLinePushed();
        wholeLineCollected();
        rounds();
        roundsOfCommonOnes();
        files();
        filesOfSixty();
        threeMoves();
        calls();
        callsOfOneKind();
        CHECKS.end();
    }

    /** A store's line 0 to last, file n in slot n % 4 of commit n. */
    private static FetchHouse line(int store, int last) {
        FetchHouse x = new FetchHouse();
        for (int commit = 0; commit <= last; commit++) {
            x.make(store, commit - 1, NONE, commit % 4, commit);
        }
        return x;
    }

    private static FetchHouse serversLine(int last) {
        FetchHouse x = line(SERVER, last);
        x.setRef(SERVER, 0, last);
        return x;
    }

    private static int push(FetchHouse x, int ref, int old, int its) {
        x.move(ref, old, its);
        return x.push();
    }

    // ---- commits

    private static void sixtyCommits() {
        CHECKS.promise("Promise 2: make");
        CHECKS.sentence("Throws IllegalStateException if 60 commits were made");
        for (int store = SERVER; store <= CLIENT; store++) {
            int its = store;
            Supplier<FetchHouse> start = () -> line(its, 58);
            FetchHouse x = start.get();
            CHECKS.due("the 60th", x.make(store, 58, NONE, 3, 99), 59);
            CHECKS.due("commits()", x.commits(), MOST_COMMITS);
            CHECKS.due("its file", x.fileAt(59, 3), 99);
            Supplier<FetchHouse> full = () -> line(its, 59);
            CHECKS.refused("the 61st", STATE, full, y -> y.make(its, 59, NONE, 0, 0));
            CHECKS.refused("the 61st without parents", STATE, full, y -> y.make(its, NONE, NONE, 0, NONE));
            CHECKS.refused("the 61st in the other store", STATE, full, y -> y.make(1 - its, NONE, NONE, 0, 0));
            CHECKS.refused("the 61st with two parents", STATE, full, y -> y.make(its, 59, 0, 3, 99));
            CHECKS.refused("the 61st on itself", INDEX, full, y -> y.make(its, 60, NONE, 0, 0));
            CHECKS.refused("the 61st with a wrong file", ARGUMENT, full, y -> y.make(its, 59, NONE, 0, 100));
        }
    }

    private static void sixtyEver() {
        CHECKS.sentence("at most 60 ever");
        FetchHouse x = line(SERVER, 59);
        CHECKS.due("collect(0)", x.collect(SERVER), MOST_COMMITS);
        CHECKS.due("the 61st, though no store has one", Checks.thrownBy(() -> x.make(SERVER, NONE, NONE, 0, 0)), STATE);
        CHECKS.due("commits()", x.commits(), MOST_COMMITS);
        FetchHouse y = line(SERVER, 58);
        y.collect(SERVER);
        CHECKS.due("the 60th, where the server has none", y.make(CLIENT, NONE, NONE, 0, 0), 59);
        CHECKS.due("the 61st", Checks.thrownBy(() -> y.make(CLIENT, 59, NONE, 0, 0)), STATE);
    }

    private static void refusedMakesCountNot() {
        FetchHouse x = new FetchHouse();
        for (int commit = 0; commit < MOST_COMMITS; commit++) {
            CHECKS.due("a wrong slot", Checks.thrownBy(() -> x.make(SERVER, NONE, NONE, 4, 0)), INDEX);
            CHECKS.due("a wrong file", Checks.thrownBy(() -> x.make(CLIENT, NONE, NONE, 0, 100)), ARGUMENT);
            CHECKS.due("make", x.make(commit % 2, NONE, NONE, 0, 0), commit);
        }
    }

    private static void commitsTheLastCan() {
        CHECKS.sentence("a commit: 0 and the 60th, 59");
        FetchHouse x = serversLine(59);
        CHECKS.due("setRef(0, 3, 59)", x.setRef(SERVER, 3, 59), NONE);
        CHECKS.due("setRef(0, 3, 0)", x.setRef(SERVER, 3, 0), 59);
        CHECKS.due("ref(0, 3)", x.ref(SERVER, 3), 0);
        CHECKS.due("fileAt(59, 3)", x.fileAt(59, 3), 59);
        CHECKS.due("fileAt(59, 0)", x.fileAt(59, 0), 56);
        CHECKS.due("fileAt(0, 0)", x.fileAt(0, 0), 0);
        CHECKS.due("fileAt(0, 3)", x.fileAt(0, 3), NONE);
        CHECKS.due("has(0, 59)", x.has(SERVER, 59), true);
        CHECKS.due("has(1, 59)", x.has(CLIENT, 59), false);
        CHECKS.due("isAncestor(0, 0, 59)", x.isAncestor(SERVER, 0, 59), true);
        CHECKS.due("isAncestor(0, 59, 0)", x.isAncestor(SERVER, 59, 0), false);
        CHECKS.due("isAncestor(0, 59, 59)", x.isAncestor(SERVER, 59, 59), true);
        CHECKS.due("fetch(0, 1, true)", x.fetch(0, 1, true), 1);
        CHECKS.due("isShallow(59)", x.isShallow(59), true);
        CHECKS.due("isShallow(0)", x.isShallow(0), false);
        CHECKS.due("move(3, 0, 59)", x.move(3, 0, 59), 1);
        CHECKS.due("push()", x.push(), 0);
        CHECKS.due("ref(0, 3)", x.ref(SERVER, 3), 59);
        for (int commit : new int[] {-1, 60}) {
            Supplier<FetchHouse> start = () -> serversLine(59);
            CHECKS.refused("fileAt of " + commit, INDEX, start, y -> y.fileAt(commit, 0));
            CHECKS.refused("has of " + commit, INDEX, start, y -> y.has(SERVER, commit));
            CHECKS.refused("isShallow of " + commit, INDEX, start, y -> y.isShallow(commit));
            CHECKS.refused("isAncestor of " + commit, INDEX, start, y -> y.isAncestor(SERVER, commit, 0));
            CHECKS.refused("isAncestor from " + commit, INDEX, start, y -> y.isAncestor(SERVER, 0, commit));
        }
        CHECKS.refused("setRef to 60", INDEX, () -> serversLine(59), y -> y.setRef(SERVER, 0, 60));
        CHECKS.refused("move from 60", INDEX, () -> serversLine(59), y -> y.move(0, 60, 0));
        CHECKS.refused("move to 60", INDEX, () -> serversLine(59), y -> y.move(0, 0, 60));
    }

    // ---- steps and rounds

    private static void steps() {
        for (int depth = 0; depth <= 60; depth++) {
            int due = depth == 0 ? MOST_COMMITS : depth;
            CHECKS.promise("Promise 6: fetch");
            CHECKS.sentence("one can come from it by less than the depth of steps .. with the depth 0 all");
            FetchHouse x = serversLine(59);
            CHECKS.due("fetch with depth " + depth, x.fetch(0, depth, false), due);
            CHECKS.due("the farthest", x.has(CLIENT, MOST_COMMITS - due), true);
            CHECKS.due("the one behind it", due < MOST_COMMITS && x.has(CLIENT, MOST_COMMITS - due - 1), false);
            CHECKS.due("the end is shallow", x.isShallow(MOST_COMMITS - due), due < MOST_COMMITS);
            CHECKS.due("again", x.fetch(0, depth, true), 0);
            CHECKS.promise("Promise 7: wouldFetch");
            CHECKS.due("wouldFetch with depth " + depth, serversLine(59).wouldFetch(0, depth), due);
            CHECKS.due("then with depth 0", x.wouldFetch(0, 0), MOST_COMMITS - due);
            CHECKS.due("then with depth 60", x.wouldFetch(0, 60), MOST_COMMITS - due);
        }
    }

    private static void wholeLinePushed() {
        CHECKS.promise("Promise 13: push");
        CHECKS.sentence("Returns how many commits the server gets");
        FetchHouse x = line(CLIENT, 59);
        CHECKS.due("all of 60", push(x, 0, NONE, 59), MOST_COMMITS);
        CHECKS.due("has(0, 0) and has(0, 59)", x.has(SERVER, 0) && x.has(SERVER, 59), true);
        CHECKS.due("hasFile(0, 0) and hasFile(0, 59)", x.hasFile(SERVER, 0) && x.hasFile(SERVER, 59), true);
        FetchHouse y = line(CLIENT, 59);
        CHECKS.due("all but one", push(y, 3, NONE, 58), MOST_COMMITS - 1);
        CHECKS.due("the last", push(y, 3, 58, 59), 1);
        FetchHouse z = line(CLIENT, 59);
        CHECKS.due("the first alone", push(z, 3, NONE, 0), 1);
        CHECKS.due("all others", push(z, 3, 0, 59), MOST_COMMITS - 1);
    }

    private static void wholeLineCollected() {
        CHECKS.promise("Promise 14: collect");
        CHECKS.sentence("Returns how many commits are dropped");
        for (int store = SERVER; store <= CLIENT; store++) {
            for (int kept = 0; kept <= MOST_COMMITS; kept++) {
                FetchHouse x = line(store, 59);
                x.setRef(store, 3, kept - 1);
                CHECKS.due("with " + kept + " kept", x.collect(store), MOST_COMMITS - kept);
                CHECKS.due("the last kept", kept > 0 && !x.has(store, kept - 1), false);
                CHECKS.due("the first dropped", kept < MOST_COMMITS && x.has(store, kept), false);
                CHECKS.due("its file", kept < MOST_COMMITS && x.hasFile(store, kept), false);
            }
        }
    }

    private static void rounds() {
        CHECKS.promise("Promise 8: rounds");
        CHECKS.sentence("up to 4 in each round");
        for (int told = 0; told < MOST_COMMITS; told++) {
            FetchHouse x = serversLine(0);
            for (int made = 0; made < told; made++) {
                x.make(CLIENT, NONE, NONE, 0, NONE);
            }
            CHECKS.due("fetch with " + told + " in the client", x.fetch(0, 0, true), 1);
            CHECKS.due("rounds with " + told + " in the client", x.rounds(), (told + 3) / 4);
        }
        FetchHouse x = new FetchHouse();
        for (int made = 0; made < MOST_COMMITS; made++) {
            x.make(CLIENT, NONE, NONE, 0, NONE);
        }
        push(x, 0, NONE, 0);
        CHECKS.due("fetch with 60 in the client", x.fetch(0, 0, true), 0);
        CHECKS.due("rounds with 60 in the client", x.rounds(), 15);
    }

    /** The client's line of 60, of which the server has all up to one: the round that tells that one is the last. */
    private static void roundsOfCommonOnes() {
        CHECKS.sentence("those that are common are not told any more");
        for (int last = 0; last < MOST_COMMITS; last++) {
            FetchHouse x = line(CLIENT, 59);
            push(x, 0, NONE, last);
            CHECKS.due("fetch", x.fetch(0, 0, true), 0);
            CHECKS.due("rounds where the server has 0 to " + last, x.rounds(), (59 - last) / 4 + 1);
        }
    }

    // ---- files and moves

    private static void files() {
        CHECKS.promise("Promise 9: load");
        for (int file = 0; file <= 99; file++) {
            FetchHouse x = new FetchHouse();
            x.make(SERVER, NONE, NONE, file % 4, file);
            x.setRef(SERVER, 0, 0);
            x.fetch(0, 0, false);
            CHECKS.due("missing() of file " + file, x.missing(), 1);
            CHECKS.due("load(" + file + ")", x.load(file), true);
            CHECKS.due("load(" + file + ") again", x.load(file), false);
            CHECKS.due("missing() then", x.missing(), 0);
            for (int other = 0; other <= 99; other++) {
                CHECKS.due("hasFile(1, " + other + ") of " + file, x.hasFile(CLIENT, other), other == file);
            }
        }
    }

    private static void filesOfSixty() {
        CHECKS.promise("Promise 10: missing");
        FetchHouse x = serversLine(59);
        x.fetch(0, 0, false);
        CHECKS.due("missing() of 60", x.missing(), MOST_COMMITS);
        for (int file = 0; file < MOST_COMMITS; file++) {
            x.load(file);
            CHECKS.due("missing()", x.missing(), MOST_COMMITS - 1 - file);
        }
        FetchHouse y = serversLine(59);
        y.fetch(0, 0, true);
        CHECKS.due("missing() where all came", y.missing(), 0);
    }

    private static void threeMoves() {
        CHECKS.promise("Promise 12: move");
        CHECKS.sentence("Moves wait in a row, up to 3");
        Supplier<FetchHouse> none = () -> line(CLIENT, 3);
        Supplier<FetchHouse> three = () -> {
            FetchHouse x = none.get();
            x.move(0, NONE, 0);
            x.move(1, NONE, 2);
            x.move(2, NONE, 1);
            return x;
        };
        FetchHouse x = none.get();
        for (int times = 0; times < 3; times++) {
            CHECKS.due("the first", x.move(0, times == 0 ? NONE : 0, 0), 1);
            CHECKS.due("the second", x.move(1, times == 0 ? NONE : 2, 2), 2);
            CHECKS.due("the third", x.move(2, times == 0 ? NONE : 1, 1), 3);
            CHECKS.due("the fourth", Checks.thrownBy(() -> x.move(3, NONE, 3)), STATE);
            CHECKS.due("the fifth", Checks.thrownBy(() -> x.move(0, NONE, NONE)), STATE);
            CHECKS.due("push()", x.push(), times == 0 ? 3 : 0);
        }
        CHECKS.due("the fourth was not done", x.ref(SERVER, 3), NONE);
        CHECKS.refused("a fourth", STATE, three, y -> y.move(3, NONE, 3));
        CHECKS.refused("a fourth to NONE", STATE, three, y -> y.move(0, NONE, NONE));
        FetchHouse z = three.get();
        z.setRef(SERVER, 0, NONE);
        z.make(SERVER, NONE, NONE, 0, NONE);
        z.setRef(SERVER, 2, 4);
        CHECKS.due("the third is stale", z.push(), STALE);
        CHECKS.due("room after a refusal", z.move(0, NONE, 0) + z.move(0, NONE, 0) + z.move(0, NONE, 0), 6);
    }

    // ---- calls

    /** After 511 calls of all kinds the object still answers right. */
    private static void calls() {
        CHECKS.promise("What it is");
        CHECKS.sentence("An object is used for at most 512 calls");
        last("make", 59, x -> x.make(CLIENT, 0, 58, 3, 99));
        last("make that is refused", INDEX, x -> Checks.thrownBy(() -> x.make(CLIENT, 59, NONE, 0, 0)));
        last("setRef", 0, x -> x.setRef(SERVER, 3, NONE));
        last("ref", 0, x -> x.ref(SERVER, 3));
        last("fileAt", 58, x -> x.fileAt(58, 2));
        last("fetch", 0, x -> x.fetch(3, 0, true));
        last("fetch that is refused", STATE, x -> Checks.thrownBy(() -> x.fetch(2, 0, true)));
        last("wouldFetch", 0, x -> x.wouldFetch(3, 60));
        last("rounds", 15, x -> x.rounds());
        last("load", false, x -> x.load(0));
        last("load that is refused", STATE, x -> Checks.thrownBy(() -> x.load(1)));
        last("missing", 0, x -> x.missing());
        last("protect", true, x -> x.protect(1, true));
        last("move", 3, x -> x.move(1, NONE, 58));
        last("push", STALE, x -> x.push());
        last("collect", 58, x -> x.collect(CLIENT));
        last("commits", 59, x -> x.commits());
        last("has", true, x -> x.has(CLIENT, 58));
        last("hasFile", true, x -> x.hasFile(CLIENT, 58));
        last("isShallow", false, x -> x.isShallow(58));
        last("isAncestor", true, x -> x.isAncestor(CLIENT, 0, 58));
    }

    private static void last(String what, Object want, Function<FetchHouse, Object> call) {
        CHECKS.due("as the 512th call, " + what, call.apply(after511()), want);
    }

    private static FetchHouse after511() {
        FetchHouse x = line(CLIENT, 58);
        int calls = 59;
        push(x, 3, NONE, 0);
        x.setRef(CLIENT, 0, 0);
        calls += 3;
        while (calls + 12 <= MOST_CALLS - 4) {
            x.fetch(3, 0, calls / 12 % 2 == 0);
            push(x, 3, 0, 0);
            push(x, 3, NONE, 0);
            x.protect(0, calls / 12 % 2 == 0);
            x.wouldFetch(3, 1);
            x.load(0);
            x.collect(SERVER);
            x.isAncestor(CLIENT, 0, 58);
            x.setRef(CLIENT, 1, 0);
            x.missing();
            calls += 12;
        }
        while (calls < MOST_CALLS - 3) {
            x.commits();
            calls++;
        }
        x.move(3, NONE, 0);
        x.move(3, 0, 0);
        return x;
    }

    private static void callsOfOneKind() {
        FetchHouse x = new FetchHouse();
        for (int call = 0; call < MOST_CALLS; call++) {
            CHECKS.due("protect, call " + call, x.protect(3, call % 2 == 0), true);
        }
        FetchHouse y = new FetchHouse();
        for (int call = 0; call < MOST_CALLS; call++) {
            CHECKS.due("push, call " + call, y.push(), 0);
        }
        FetchHouse z = new FetchHouse();
        for (int call = 0; call < MOST_CALLS; call++) {
            int done = call;
            CHECKS.due("move, call " + call, Checks.thrownBy(() -> z.move(3, NONE, NONE)), done < 3 ? null : STATE);
        }
        FetchHouse made = new FetchHouse();
        for (int call = 0; call < MOST_CALLS; call++) {
            int done = call;
            CHECKS.due("make, call " + call, Checks.thrownBy(() -> made.make(CLIENT, Math.min(done, MOST_COMMITS) - 1, NONE,
                    done % 4, done % 100)), done < MOST_COMMITS ? null : STATE);
        }
        FetchHouse fetched = serversLine(58);
        fetched.make(CLIENT, NONE, NONE, 0, NONE);
        for (int call = 61; call < MOST_CALLS; call++) {
            CHECKS.due("fetch, call " + call, fetched.fetch(0, (call - 61) % 59 + 1, true), call - 61 < 59 ? 1 : 0);
        }
    }
}
