import java.util.function.Supplier;

/** Promises 11 to 13: protect, move, push. */
public final class PushingTest {
    private static final int NONE = FetchHouse.NONE, SERVER = FetchHouse.SERVER, CLIENT = FetchHouse.CLIENT;
    private static final int STALE = FetchHouse.STALE, BACK = FetchHouse.BACK, LACKING = FetchHouse.LACKING;
    private static final Class<?> INDEX = IndexOutOfBoundsException.class;
    private static final Class<?> STATE = IllegalStateException.class;

    private static final Checks CHECKS = new Checks();

    public static void main(String[] args) {
        protect();
        move();
        moveRefuses();
        pushSendsAncestorsAndFiles();
        pushSendsFilesOfWhatTheServerHad();
        pushStale();
        pushBack();
        pushLacking();
        pushLackingAtShallowEnds();
        pushFirstRefusal();
        pushAllOrNone();
        pushMovesOfOneRef();
        pushIsAskedAsTheServerIsAhead();
        CHECKS.end();
    }

    /** The client's 0 <- 1 <- 2, and 3 on 0, each with a file of its number. */
    private static FetchHouse fork() {
        FetchHouse x = new FetchHouse();
        x.make(CLIENT, NONE, NONE, 0, 0);
        x.make(CLIENT, 0, NONE, 1, 1);
        x.make(CLIENT, 1, NONE, 2, 2);
        x.make(CLIENT, 0, NONE, 3, 3);
        return x;
    }

    private static int push(FetchHouse x, int ref, int old, int its) {
        x.move(ref, old, its);
        return x.push();
    }

    private static void protect() {
        CHECKS.promise("Promise 11: protect");
        FetchHouse x = fork();
        CHECKS.due("protect(3, true)", x.protect(3, true), true);
        CHECKS.due("again", x.protect(3, true), false);
        CHECKS.due("another ref", x.protect(0, false), false);
        push(x, 3, NONE, 2);
        CHECKS.due("it protects", push(x, 3, 2, 1), BACK);
        CHECKS.due("protect(3, false)", x.protect(3, false), true);
        CHECKS.due("again", x.protect(3, false), false);
        CHECKS.due("it does not protect any more", push(x, 3, 2, 1), 0);
        x.protect(3, true);
        push(x, 3, 1, NONE);
        x.setRef(SERVER, 3, NONE);
        CHECKS.due("it stays, whatever the ref is for", x.protect(3, true), false);
        Supplier<FetchHouse> start = PushingTest::fork;
        CHECKS.refused("protect(-1, true)", INDEX, start, y -> y.protect(-1, true));
        CHECKS.refused("protect(4, false)", INDEX, start, y -> y.protect(4, false));
    }

    private static void move() {
        CHECKS.promise("Promise 12: move");
        FetchHouse x = fork();
        CHECKS.due("the first", x.move(0, NONE, 1), 1);
        CHECKS.due("the second", x.move(3, 3, NONE), 2);
        CHECKS.due("the third", x.move(0, NONE, NONE), 3);
        CHECKS.due("nothing moves yet", x.ref(SERVER, 0), NONE);
        CHECKS.due("nothing comes yet", x.has(SERVER, 1), false);
        x.push();
        CHECKS.due("the first after a push", x.move(0, NONE, 1), 1);
    }

    private static void moveRefuses() {
        Supplier<FetchHouse> start = PushingTest::fork;
        CHECKS.refused("move(-1, -1, 0)", INDEX, start, x -> x.move(-1, NONE, 0));
        CHECKS.refused("move(4, -1, 0)", INDEX, start, x -> x.move(4, NONE, 0));
        CHECKS.refused("move(0, 4, 0)", INDEX, start, x -> x.move(0, 4, 0));
        CHECKS.refused("move(0, -2, 0)", INDEX, start, x -> x.move(0, -2, 0));
        CHECKS.refused("move(0, -1, 4)", INDEX, start, x -> x.move(0, NONE, 4));
        CHECKS.refused("move(0, -1, -2)", INDEX, start, x -> x.move(0, NONE, -2));
        Supplier<FetchHouse> full = () -> {
            FetchHouse x = fork();
            x.move(0, NONE, 1);
            x.move(1, NONE, 2);
            x.move(2, NONE, 3);
            return x;
        };
        CHECKS.refused("a fourth", STATE, full, x -> x.move(3, NONE, 0));
        CHECKS.refused("a fourth of no ref", INDEX, full, x -> x.move(4, NONE, 0));
        CHECKS.refused("a fourth of no commit", INDEX, full, x -> x.move(3, NONE, 4));
        FetchHouse x = full.get();
        Checks.thrownBy(() -> x.move(0, NONE, 0));
        CHECKS.due("the three are pushed", x.push(), 4);
    }

    private static void pushSendsAncestorsAndFiles() {
        CHECKS.promise("Promise 13: push");
        FetchHouse x = fork();
        CHECKS.due("no moves", x.push(), 0);
        CHECKS.due("two commits", push(x, 1, NONE, 1), 2);
        CHECKS.due("ref(0, 1)", x.ref(SERVER, 1), 1);
        CHECKS.due("the client's ref stays", x.ref(CLIENT, 1), NONE);
        CHECKS.due("has(0, 0) and has(0, 1)", x.has(SERVER, 0) && x.has(SERVER, 1), true);
        CHECKS.due("has(0, 2) or has(0, 3)", x.has(SERVER, 2) || x.has(SERVER, 3), false);
        CHECKS.due("files of both", x.hasFile(SERVER, 0) && x.hasFile(SERVER, 1), true);
        CHECKS.due("files of others", x.hasFile(SERVER, 2) || x.hasFile(SERVER, 3), false);
        CHECKS.due("one more", push(x, 1, 1, 2), 1);
        CHECKS.due("none more", push(x, 2, NONE, 0), 0);
        CHECKS.due("to none", push(x, 1, 2, NONE), 0);
        CHECKS.due("ref(0, 1)", x.ref(SERVER, 1), NONE);
        CHECKS.due("it is for the same", push(x, 2, 0, 0), 0);
        CHECKS.due("none to none", push(x, 3, NONE, NONE), 0);
        FetchHouse y = new FetchHouse();
        y.make(CLIENT, NONE, NONE, 0, 1);
        y.make(CLIENT, NONE, NONE, 0, 2);
        y.make(CLIENT, 0, 1, 0, 3);
        CHECKS.due("both parents", push(y, 0, NONE, 2), 3);
        CHECKS.due("has(0, 1)", y.has(SERVER, 1), true);
    }

    private static void pushSendsFilesOfWhatTheServerHad() {
        FetchHouse x = new FetchHouse();
        x.make(SERVER, NONE, NONE, 0, 1);
        x.make(SERVER, NONE, NONE, 0, 2);
        x.setRef(SERVER, 0, 0);
        x.setRef(SERVER, 1, 1);
        x.fetch(0, 0, false);
        x.fetch(1, 0, true);
        x.setRef(SERVER, 0, NONE);
        x.setRef(SERVER, 1, NONE);
        x.collect(SERVER);
        x.make(CLIENT, 0, 1, 1, 3);
        CHECKS.due("commits that the client has without files", push(x, 0, NONE, 2), 3);
        CHECKS.due("a file that the client lacks", x.hasFile(SERVER, 1), false);
        CHECKS.due("a file that the client has", x.hasFile(SERVER, 2), true);
        x.make(SERVER, NONE, NONE, 0, 1);
        x.load(1);
        x.setRef(SERVER, 0, 2);
        x.collect(SERVER);
        CHECKS.due("the server keeps the file that its commits have", x.hasFile(SERVER, 1), true);
        FetchHouse y = new FetchHouse();
        y.make(SERVER, NONE, NONE, 0, 1);
        y.setRef(SERVER, 0, 0);
        y.fetch(0, 0, false);
        y.setRef(SERVER, 0, NONE);
        y.collect(SERVER);
        push(y, 0, NONE, 0);
        CHECKS.due("pushed without a file", y.hasFile(SERVER, 0) || y.hasFile(SERVER, 1), false);
        y.make(CLIENT, NONE, NONE, 3, 1);
        CHECKS.due("the client has the file by another commit", push(y, 1, NONE, 0), 0);
        CHECKS.due("a commit that the server had gets its file", y.hasFile(SERVER, 1), true);
    }

    private static void pushStale() {
        FetchHouse x = fork();
        push(x, 0, NONE, 1);
        CHECKS.due("told NONE", push(x, 0, NONE, 2), STALE);
        CHECKS.due("told another one", push(x, 0, 0, 2), STALE);
        CHECKS.due("told one where it is NONE", push(x, 1, 1, 2), STALE);
        x.setRef(CLIENT, 1, 1);
        CHECKS.due("the client's ref does not count", push(x, 1, 1, 2), STALE);
        CHECKS.due("ref(0, 0)", x.ref(SERVER, 0), 1);
        CHECKS.due("has(0, 2)", x.has(SERVER, 2), false);
        CHECKS.due("none waits then", x.push(), 0);
        CHECKS.due("the row is free", x.move(0, NONE, NONE), 1);
    }

    private static void pushBack() {
        FetchHouse x = fork();
        x.protect(0, true);
        CHECKS.due("from NONE", push(x, 0, NONE, 1), 2);
        CHECKS.due("to one beside", push(x, 0, 1, 3), BACK);
        CHECKS.due("to a parent", push(x, 0, 1, 0), BACK);
        CHECKS.due("to NONE", push(x, 0, 1, NONE), BACK);
        CHECKS.due("to the same", push(x, 0, 1, 1), 0);
        CHECKS.due("forwards", push(x, 0, 1, 2), 1);
        CHECKS.due("an unprotected ref to one beside", push(x, 1, NONE, 2) + push(x, 1, 2, 3), 1);
        CHECKS.due("an unprotected ref to NONE", push(x, 1, 3, NONE), 0);
        x.collect(CLIENT);
        CHECKS.due("to the same, which the client lacks", push(x, 0, 2, 2), BACK);
        x.setRef(SERVER, 0, NONE);
        CHECKS.due("NONE to NONE", push(x, 0, NONE, NONE), 0);
        FetchHouse y = line(3);
        y.protect(0, true);
        y.setRef(SERVER, 0, 1);
        y.setRef(SERVER, 1, 3);
        y.fetch(1, 2, true);
        CHECKS.due("an ancestor in the server, but not in the client", push(y, 0, 1, 3), BACK);
        y.fetch(1, 0, true);
        CHECKS.due("an ancestor in the client, too", push(y, 0, 1, 3), 0);
    }

    /** The server's line 0 to last, ref 0 for the last. */
    private static FetchHouse line(int last) {
        FetchHouse x = new FetchHouse();
        for (int commit = 0; commit <= last; commit++) {
            x.make(SERVER, commit - 1, NONE, 0, commit);
        }
        x.setRef(SERVER, 0, last);
        return x;
    }

    private static void pushLacking() {
        FetchHouse x = line(1);
        CHECKS.due("one that only the server has", push(x, 1, NONE, 0), LACKING);
        x.make(CLIENT, NONE, NONE, 0, 9);
        x.collect(CLIENT);
        CHECKS.due("one that nobody has", push(x, 1, NONE, 2), LACKING);
        CHECKS.due("ref(0, 1)", x.ref(SERVER, 1), NONE);
        CHECKS.due("none waits then", x.push(), 0);
    }

    private static void pushLackingAtShallowEnds() {
        FetchHouse x = line(3);
        x.fetch(0, 1, true);
        x.make(CLIENT, 3, NONE, 1, 50);
        CHECKS.due("a shallow ancestor that the server has", push(x, 0, 3, 4), 1);
        CHECKS.due("isAncestor(0, 0, 4)", x.isAncestor(SERVER, 0, 4), true);
        x.setRef(SERVER, 0, 2);
        x.collect(SERVER);
        CHECKS.due("a shallow ancestor that the server lacks", push(x, 0, 2, 4), LACKING);
        CHECKS.due("that one itself", push(x, 0, 2, 3), LACKING);
        x.make(CLIENT, NONE, NONE, 0, 60);
        CHECKS.due("others without it", push(x, 1, NONE, 5), 1);
        x.make(CLIENT, 5, 4, 0, 61);
        CHECKS.due("by a second parent", push(x, 1, 5, 6), LACKING);
    }

    private static void pushFirstRefusal() {
        FetchHouse x = fork();
        x.make(SERVER, NONE, NONE, 0, 9);
        x.protect(0, true);
        push(x, 0, NONE, 2);
        CHECKS.due("STALE ahead of BACK and LACKING", push(x, 0, 1, 4), STALE);
        CHECKS.due("BACK ahead of LACKING", push(x, 0, 2, 4), BACK);
        CHECKS.due("LACKING with a protected ref", push(x, 0, 2, 2) + pushFromNone(x), LACKING);
        x.move(1, NONE, 4);
        x.move(1, 3, 4);
        x.move(0, 2, 0);
        CHECKS.due("the first move's, LACKING", x.push(), LACKING);
        x.move(1, NONE, 3);
        x.move(0, 2, 0);
        x.move(1, 3, 4);
        CHECKS.due("the second move's, BACK", x.push(), BACK);
        x.move(1, NONE, 3);
        x.move(1, NONE, 3);
        x.move(1, 3, 4);
        CHECKS.due("the third move's, STALE", x.push(), STALE);
    }

    private static int pushFromNone(FetchHouse x) {
        x.protect(2, true);
        return push(x, 2, NONE, 4);
    }

    private static void pushAllOrNone() {
        FetchHouse x = fork();
        x.move(0, NONE, 1);
        x.move(1, NONE, 3);
        x.move(2, 0, 2);
        CHECKS.due("refused", x.push(), STALE);
        for (int commit = 0; commit <= 3; commit++) {
            CHECKS.due("has(0, " + commit + ")", x.has(SERVER, commit), false);
            CHECKS.due("hasFile(0, " + commit + ")", x.hasFile(SERVER, commit), false);
            CHECKS.due("ref(0, " + commit + ")", x.ref(SERVER, commit), NONE);
        }
        CHECKS.due("none waits then", x.push(), 0);
        x.move(0, NONE, 1);
        x.move(1, NONE, 3);
        x.move(2, NONE, 2);
        CHECKS.due("each commit counts once", x.push(), 4);
        CHECKS.due("refs", x.ref(SERVER, 0) + 10 * x.ref(SERVER, 1) + 100 * x.ref(SERVER, 2), 231);
        CHECKS.due("none waits then", x.push(), 0);
        CHECKS.due("the row is free", x.move(0, 1, 1), 1);
    }

    private static void pushMovesOfOneRef() {
        FetchHouse x = fork();
        x.move(0, NONE, 2);
        x.move(0, NONE, 3);
        x.move(0, NONE, 0);
        CHECKS.due("all new commits are sent", x.push(), 4);
        CHECKS.due("the last is done last", x.ref(SERVER, 0), 0);
        x.move(0, 0, 1);
        x.move(0, 0, NONE);
        CHECKS.due("push()", x.push(), 0);
        CHECKS.due("the last may be to NONE", x.ref(SERVER, 0), NONE);
    }

    private static void pushIsAskedAsTheServerIsAhead() {
        FetchHouse x = fork();
        x.move(0, NONE, 1);
        x.move(0, 1, 2);
        CHECKS.due("a move that builds on another is stale", x.push(), STALE);
        x.protect(0, true);
        push(x, 0, NONE, 0);
        x.move(0, 0, 2);
        x.move(0, 0, 3);
        CHECKS.due("each is protected as ahead of all", x.push(), 3);
        CHECKS.due("ref(0, 0)", x.ref(SERVER, 0), 3);
        FetchHouse y = line(3);
        y.fetch(0, 1, true);
        y.setRef(SERVER, 0, 2);
        y.collect(SERVER);
        y.setRef(SERVER, 1, 2);
        y.fetch(1, 1, true);
        y.fetch(0, 0, true);
        y.move(2, NONE, 3);
        CHECKS.due("no more shallow", y.push(), 1);
    }
}
